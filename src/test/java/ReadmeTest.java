import java.io.IOException;
import java.lang.reflect.Method;
import java.lang.reflect.Modifier;
import java.nio.file.Files;
import java.nio.file.Path;
import java.util.regex.Matcher;
import java.util.regex.Pattern;

/** README.md tells the truth: its example's calls answer what stands behind them, and each call has its row. */
public final class ReadmeTest {
    private static final Pattern CALL = Pattern.compile("^desk\\.(\\w+)\\((.*)\\); *// (true|false|-?\\d+)(?=:|$)", Pattern.MULTILINE);
    private static final Pattern ANY_CALL = Pattern.compile("^desk\\.", Pattern.MULTILINE);

    public static void main(String[] args) throws IOException, ReflectiveOperationException {
        String readme = Files.readString(Path.of("README.md"));
        example(readme);
        rows(readme);
        Check.end();
    }

    private static void example(String readme) throws ReflectiveOperationException {
        SignDesk desk = new SignDesk();
        Matcher call = CALL.matcher(readme);
        int calls = 0;
        while (call.find()) {
            Check.due(call.group(), answer(desk, call.group(1), call.group(2)), number(call.group(3)));
            calls++;
        }
        Check.due("calls with an answer behind them", calls, ANY_CALL.matcher(readme).results().count());
        Check.due("there are some", calls > 0, true);
    }

    private static long answer(SignDesk desk, String name, String written) throws ReflectiveOperationException {
        String[] parts = written.isEmpty() ? new String[0] : written.split(", ");
        for (Method method : SignDesk.class.getMethods()) {
            if (method.getName().equals(name)) {
                Object[] arguments = new Object[parts.length];
                for (int i = 0; i < parts.length; i++) {
                    long number = Long.decode(parts[i].replace("L", ""));
                    boolean isLong = method.getParameterTypes()[i] == long.class;
                    arguments[i] = isLong ? (Object) number : (Object) Math.toIntExact(number);
                }
                return number(method.invoke(desk, arguments).toString());
            }
        }
        throw new IllegalArgumentException(name);
    }

    private static long number(String answer) {
        return answer.equals("true") ? 1 : answer.equals("false") ? 0 : Long.parseLong(answer);
    }

    private static void rows(String readme) {
        for (Method method : SignDesk.class.getDeclaredMethods()) {
            if (Modifier.isPublic(method.getModifiers())) {
                Check.due("a row for " + method.getName(), readme.contains("| `" + method.getName() + "("), true);
            }
        }
    }
}
