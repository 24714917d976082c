import java.util.ArrayList;
import java.util.Arrays;
import java.util.LinkedHashMap;
import java.util.LinkedHashSet;
import java.util.List;
import java.util.Map;
import java.util.Set;
import java.util.regex.Matcher;
import java.util.regex.Pattern;

/** The document once more, written another way (patterns, maps, unsigned words), to compare with. */
final class Model {
    private static final String SYMBOL = "[A-Za-z_.$:][A-Za-z0-9_.$:]{0,15}";
    private static final Pattern NUMBER = Pattern.compile("@([0-9]{1,5})");
    private static final Pattern NAME = Pattern.compile("@(" + SYMBOL + ")");
    private static final Pattern LABEL = Pattern.compile("\\((" + SYMBOL + ")\\)");
    private static final Pattern OTHER = Pattern.compile("(?:(M|D|MD|A|AM|AD|AMD)=)?"
        + "(0|1|-1|[DAM]|![DAM]|-[DAM]|[DAM]\\+1|[DAM]-1|D[-+&|][AM]|[AM]-D)"
        + "(?:;(JGT|JEQ|JGE|JLT|JNE|JLE|JMP))?");
    private static final Pattern PIECE = Pattern.compile("(?:(?!//)[^\\t\\r ])+");
    private static final List<String> JUMPS = Arrays.asList("JGT", "JEQ", "JGE", "JLT", "JNE", "JLE", "JMP");
    private static final Map<String, Integer> COMPS = comps();
    private static final Map<String, Integer> KNOWN = known();

    private record Place(int at, String piece, boolean second) {
    }

    private String text = "";
    private int place = -1;
    private int symbols = 0;
    private List<Integer> words = new ArrayList<>();
    private List<String> signs = new ArrayList<>();
    private char[] store = new char[32768];
    private char a = 0;
    private char d = 0;
    private int next = 0;
    private int done = 0;

    private static Map<String, Integer> comps() {
        Map<String, Integer> comps = new LinkedHashMap<>();
        String[] told = ("0 42, 1 63, -1 58, D 12, A 48, !D 13, !A 49, -D 15, -A 51, D+1 31, A+1 55, D-1 14, A-1 50, "
            + "D+A 2, D-A 19, A-D 7, D&A 0, D|A 21").split(", ");
        for (String one : told) {
            String[] parts = one.split(" ");
            comps.put(parts[0].replace('A', 'M'), 4096 + 64 * Integer.parseInt(parts[1]));
        }
        for (String one : told) {
            String[] parts = one.split(" ");
            comps.put(parts[0], 64 * Integer.parseInt(parts[1]));
        }
        return comps;
    }

    private static Map<String, Integer> known() {
        Map<String, Integer> known = new LinkedHashMap<>();
        for (int i = 0; i < 16; i++) {
            known.put("R" + i, i);
        }
        String[] names = {"SP", "LCL", "ARG", "THIS", "THAT"};
        for (int i = 0; i < names.length; i++) {
            known.put(names[i], i);
        }
        known.put("SCREEN", 16384);
        known.put("KBD", 24576);
        return known;
    }

    boolean put(long v, int n) {
        if (n < 1 || n > 8 || text.length() + n > 2000) {
            return false;
        }
        StringBuilder added = new StringBuilder();
        for (int i = 0; i < n; i++) {
            added.insert(0, (char) (v & 255));
            v >>= 8;
        }
        text += added;
        return true;
    }

    int read() {
        List<Place> places = places();
        text = "";
        place = -1;
        symbols = 0;
        words = new ArrayList<>();
        signs = new ArrayList<>();
        store = new char[32768];
        a = 0;
        d = 0;
        next = 0;
        done = 0;
        Map<String, Integer> labels = new LinkedHashMap<>();
        Set<String> names = new LinkedHashSet<>();
        List<String> pieces = new ArrayList<>();
        for (Place one : places) {
            int fault = one.second ? 1 : look(one.piece, pieces, labels, names);
            if (fault != 0) {
                place = one.at;
                return fault;
            }
        }
        symbols = names.size();
        signs = pieces;
        turnIntoWords(labels);
        return 0;
    }

    private List<Place> places() {
        List<Place> places = new ArrayList<>();
        int start = 0;
        for (String line : text.split("\n", -1)) {
            int comment = line.indexOf("//");
            Matcher piece = PIECE.matcher(comment < 0 ? line : line.substring(0, comment));
            boolean second = false;
            while (piece.find()) {
                places.add(new Place(start + piece.start(), piece.group(), second));
                second = true;
            }
            start += line.length() + 1;
        }
        return places;
    }

    private static int look(String piece, List<String> pieces, Map<String, Integer> labels, Set<String> names) {
        Matcher number = NUMBER.matcher(piece);
        Matcher name = NAME.matcher(piece);
        Matcher label = LABEL.matcher(piece);
        boolean isNumber = number.matches() && Integer.parseInt(number.group(1)) < 32768;
        if (!isNumber && !name.matches() && !label.matches() && !OTHER.matcher(piece).matches()) {
            return 1;
        }
        String symbol = name.matches() ? name.group(1) : label.matches() ? label.group(1) : "R0";
        boolean isNew = !KNOWN.containsKey(symbol) && !names.contains(symbol);
        if (!label.matches() && pieces.size() == 600 || isNew && names.size() == 40) {
            return 2;
        }
        if (label.matches() && (labels.containsKey(symbol) || KNOWN.containsKey(symbol))) {
            return 3;
        }
        if (isNew) {
            names.add(symbol);
        }
        if (label.matches()) {
            labels.put(symbol, pieces.size());
        } else {
            pieces.add(piece);
        }
        return 0;
    }

    private void turnIntoWords(Map<String, Integer> labels) {
        Map<String, Integer> numbers = new LinkedHashMap<>(KNOWN);
        numbers.putAll(labels);
        int free = 16;
        for (String piece : signs) {
            if (NUMBER.matcher(piece).matches()) {
                words.add(Integer.parseInt(piece.substring(1)));
            } else if (piece.startsWith("@")) {
                if (numbers.putIfAbsent(piece.substring(1), free) == null) {
                    free++;
                }
                words.add(numbers.get(piece.substring(1)));
            } else {
                words.add(otherWord(piece));
            }
        }
    }

    private static Matcher parts(String piece) {
        Matcher parts = OTHER.matcher(piece);
        if (!parts.matches()) {
            throw new IllegalStateException(piece);
        }
        return parts;
    }

    private static int otherWord(String piece) {
        Matcher parts = parts(piece);
        String dest = parts.group(1) == null ? "" : parts.group(1);
        int word = 57344 + COMPS.get(parts.group(2)) + JUMPS.indexOf(parts.group(3)) + 1;
        return word + (dest.contains("A") ? 32 : 0) + (dest.contains("D") ? 16 : 0) + (dest.contains("M") ? 8 : 0);
    }

    int place() {
        return place;
    }

    int code(int i) {
        return i >= 0 && i < words.size() ? words.get(i) : -1;
    }

    int go(int n) {
        if (n < 0 || n > 2000) {
            return -1;
        }
        int steps = 0;
        while (steps < n && next < words.size()) {
            step();
            steps++;
        }
        done += steps;
        return steps;
    }

    private void step() {
        if (signs.get(next).startsWith("@")) {
            a = (char) words.get(next).intValue();
            next++;
            return;
        }
        Matcher parts = parts(signs.get(next));
        String dest = parts.group(1) == null ? "" : parts.group(1);
        int old = a & 32767;
        char value = value(parts.group(2));
        if (dest.contains("M")) {
            store[old] = value;
        }
        if (dest.contains("A")) {
            a = value;
        }
        if (dest.contains("D")) {
            d = value;
        }
        next = jumps(parts.group(3), (short) value) ? old : next + 1;
    }

    private int operand(char sign) {
        switch (sign) {
            case 'A': return a;
            case 'D': return d;
            case 'M': return store[a & 32767];
            default: return sign - '0';
        }
    }

    private char value(String comp) {
        int last = operand(comp.charAt(comp.length() - 1));
        if (comp.length() == 1) {
            return (char) last;
        }
        if (comp.length() == 2) {
            return (char) (comp.charAt(0) == '!' ? 65535 - last : 65536 - last);
        }
        int first = operand(comp.charAt(0));
        switch (comp.charAt(1)) {
            case '+': return (char) (first + last);
            case '-': return (char) (first + 65536 - last);
            case '&': return (char) (first & last);
            default: return (char) (first | last);
        }
    }

    private static boolean jumps(String jump, int value) {
        if (jump == null) {
            return false;
        }
        switch (jump) {
            case "JGT": return value > 0;
            case "JEQ": return value == 0;
            case "JGE": return value >= 0;
            case "JLT": return value < 0;
            case "JNE": return value != 0;
            case "JLE": return value <= 0;
            default: return true;
        }
    }

    boolean set(int address, int v) {
        if (address < 0 || address > 32767) {
            return false;
        }
        store[address] = (char) v;
        return true;
    }

    int store(int address) {
        return address < 0 || address > 32767 ? 100000 : (short) store[address];
    }

    int register(int what) {
        int[] registers = {(short) a, (short) d, next, words.size(), done, symbols, text.length()};
        return what < 0 || what > 6 ? 100000 : registers[what];
    }
}
