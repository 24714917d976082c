import java.nio.charset.StandardCharsets;

/**
 * Made-up runs of up to 512 calls, the same ones each time, answered by the class and by the model;
 * and every short text over some of the signs, read by both.
 */
public final class ModelTest {
    private static final int RUNS = 1500;
    private static final int CALLS = 512;
    private static final String[] SYMBOLS = {"R0", "R15", "R16", "SP", "KBD", "SCREEN", "THAT", "LCL", "ARG", "THIS", "a", "b",
        "A", "loop", "end", "x.y", "$1", ":", "_z", "abcdefghijklmnop", "abcdefghijklmnopq", "1a", ""};
    private static final String[] BREAKS = {"\n", "\n", "\n", "\n", "\n", "\n", "\r\n", " // c\n", "//\n", "\n\n", "\n \t", " "};
    private static final String JUNK = "@(D=A;JMP)/ \n\t\r01!&|+-_.$:xR\0\u00ff";

    private static long seed = 2026;
    private SignDesk desk = new SignDesk();
    private Model model = new Model();
    private int calls = 0;
    private int clean = 0;

    /** A row of numbers that look shuffled and never differ from one day to the next. */
    private static int below(int bound) {
        seed = seed * 6364136223846793005L + 1442695040888963407L;
        return (int) ((seed >>> 33) % bound);
    }

    private static String one(String... of) {
        return of[below(of.length)];
    }

    public static void main(String[] args) {
        ModelTest test = new ModelTest();
        for (int run = 0; run < RUNS; run++) {
            test.run(run);
        }
        Check.due("more than a third of the runs read something clean", test.clean > RUNS / 3, true);
        test.shortTexts("@(D=A;M)/ \n1+-!|xR", 4, "");
        test.shortTexts("@(x)/ \n1", 5, "");
        test.shortTexts("DAM=+-&1", 5, "");
        Check.end();
    }

    /** Every text that begins so and has at most so many signs more. */
    private void shortTexts(String signs, int more, String start) {
        desk = new SignDesk();
        model = new Model();
        calls = 0;
        putText(start, start);
        readAndLook(start);
        Check.due(start + ": register(5)", desk.register(5), model.register(5));
        for (int i = 0; i < signs.length() && more > 0; i++) {
            shortTexts(signs, more - 1, start + signs.charAt(i));
        }
    }

    private void run(int run) {
        desk = new SignDesk();
        model = new Model();
        calls = 0;
        while (calls < CALLS) {
            String when = "run " + run + ", call " + calls;
            int kind = below(20);
            if (kind == 0) {
                putText(when, text(run % 3 == 0));
            } else if (kind == 1 && calls <= CALLS - 2) {
                readAndLook(when);
            } else {
                oneCall(when, kind);
            }
        }
    }

    private static String text(boolean dirty) {
        StringBuilder text = new StringBuilder();
        int count = below(10) == 0 ? 620 : below(60);
        boolean brief = count == 620;
        for (int i = 0; i < count; i++) {
            text.append(brief ? one("0", "1", "D") : instruction());
            text.append(brief || !dirty ? "\n" : one(BREAKS));
        }
        if (dirty && below(2) == 0 && text.length() > 0) {
            text.setCharAt(below(text.length()), JUNK.charAt(below(JUNK.length())));
        }
        return text.toString();
    }

    private static String instruction() {
        switch (below(12)) {
            case 0: return "@" + below(40);
            case 1: return "@" + below(below(4) == 0 ? 33000 : 32768);
            case 2: return "@" + SYMBOLS[below(below(9) == 0 ? SYMBOLS.length : SYMBOLS.length - 3)];
            case 3: return "@v" + below(below(5) == 0 ? 50 : 20);
            case 4: return below(3) == 0 ? "(v" + below(60) + ")" : "@R" + below(16);
            case 5: return below(20) == 0 ? "(" + one(SYMBOLS) + ")" : "@" + below(60);
            case 6: return "D;" + one("JGT", "JEQ", "JGE", "JLT", "JNE", "JLE", "JMP");
            default: return other();
        }
    }

    private static String other() {
        String comp = one(CodeTest.COMPS);
        return one(CodeTest.DESTS) + (below(2) == 0 ? comp : comp.replace('A', 'M'))
            + (below(4) == 0 ? one(CodeTest.JUMPS) : "");
    }

    private void putText(String when, String text) {
        byte[] bytes = text.getBytes(StandardCharsets.ISO_8859_1);
        for (int from = 0; from < bytes.length && calls < CALLS; from += 8) {
            int n = Math.min(8, bytes.length - from);
            long v = below(2) == 0 ? -1 : 0;
            for (int i = 0; i < n; i++) {
                v = v << 8 | bytes[from + i] & 255;
            }
            Check.due(when + ": put", desk.put(v, n), model.put(v, n));
            calls++;
        }
    }

    private void readAndLook(String when) {
        int fault = model.read();
        Check.due(when + ": read()", desk.read(), fault);
        Check.due(when + ": place()", desk.place(), model.place());
        calls += 2;
        int words = model.register(3);
        clean += words > 0 ? 1 : 0;
        for (int i = 0; i <= words && calls < CALLS - 40; i++) {
            Check.due(when + ": code(" + i + ")", desk.code(i), model.code(i));
            calls++;
        }
        for (int i = 0; i < 16 && words > 0 && calls <= CALLS - 2; i++) {
            int n = below(3) == 0 ? below(2001) : below(5);
            Check.due(when + ": go(" + n + ")", desk.go(n), model.go(n));
            Check.due(when + ": register(" + i % 8 + ")", desk.register(i % 8), model.register(i % 8));
            calls += 2;
        }
    }

    private void oneCall(String when, int kind) {
        int address = below(4) == 0 ? below(32770) - 1 : below(60);
        int number = below(70000) - 35000;
        calls++;
        switch (kind % 6) {
            case 0:
                Check.due(when + ": set", desk.set(address, number), model.set(address, number));
                break;
            case 1:
                Check.due(when + ": store(" + address + ")", desk.store(address), model.store(address));
                break;
            case 2:
                Check.due(when + ": register(" + kind / 2 + ")", desk.register(kind / 2), model.register(kind / 2));
                break;
            case 3:
                Check.due(when + ": code(" + address + ")", desk.code(address), model.code(address));
                break;
            case 4:
                Check.due(when + ": go(" + number / 10 + ")", desk.go(number / 10), model.go(number / 10));
                break;
            default:
                Check.due(when + ": register(" + address % 8 + ")", desk.register(address % 8), model.register(address % 8));
                break;
        }
    }
}
