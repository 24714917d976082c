import java.nio.charset.StandardCharsets;

/** What the tests share: they count the answers that are not as due, and end with 1 if there is one. */
final class Check {
    private static int wrong = 0;
    private static int asked = 0;
    private static String sentence = "";
    private static int askedBefore = 0;

    private Check() {
    }

    /** What is asked from here on is asked for this sentence of the document. */
    static void sentence(String words) {
        endSentence();
        sentence = words;
        askedBefore = asked;
    }

    private static void endSentence() {
        if (!sentence.isEmpty() && asked == askedBefore) {
            wrong++;
            System.out.println("nothing was asked for: " + sentence);
        }
    }

    static void due(String call, long got, long want) {
        asked++;
        if (got != want) {
            wrong++;
            System.out.println(call + " answered " + got + ", due is " + want
                + (sentence.isEmpty() ? "" : " <- " + sentence));
        }
    }

    static void due(String call, boolean got, boolean want) {
        due(call, got ? 1 : 0, want ? 1 : 0);
    }

    static void end() {
        endSentence();
        System.out.println(wrong == 0 ? asked + " answers are as due" : wrong + " answers are not as due");
        if (wrong != 0) {
            System.exit(1);
        }
    }

    /** Puts the whole text, eight bytes a call. */
    static void put(SignDesk desk, String text) {
        byte[] bytes = text.getBytes(StandardCharsets.ISO_8859_1);
        for (int from = 0; from < bytes.length; from += 8) {
            int n = Math.min(8, bytes.length - from);
            long v = 0;
            for (int i = 0; i < n; i++) {
                v = v << 8 | bytes[from + i] & 255;
            }
            due("put of " + show(text) + " from " + from, desk.put(v, n), true);
        }
    }

    /** A new object that has read the text without a fault. */
    static SignDesk desk(String text) {
        SignDesk desk = new SignDesk();
        put(desk, text);
        due("read() of " + show(text), desk.read(), 0);
        due("place() of " + show(text), desk.place(), -1);
        return desk;
    }

    /** The text is read without a fault and becomes just these words. */
    static void words(String text, int... words) {
        SignDesk desk = desk(text);
        due("register(3) of " + show(text), desk.register(3), words.length);
        for (int i = 0; i < words.length; i++) {
            due("code(" + i + ") of " + show(text), desk.code(i), words[i]);
        }
        due("code(" + words.length + ") of " + show(text), desk.code(words.length), -1);
    }

    /** The text has this fault at this place, and so no words and no symbols. */
    static void fault(String text, int fault, int place) {
        SignDesk desk = new SignDesk();
        put(desk, text);
        due("read() of " + show(text), desk.read(), fault);
        due("place() of " + show(text), desk.place(), place);
        due("code(0) of " + show(text), desk.code(0), -1);
        due("register(3) of " + show(text), desk.register(3), 0);
        due("register(5) of " + show(text), desk.register(5), 0);
        due("go(5) of " + show(text), desk.go(5), 0);
    }

    static void blankProcessor(String when, SignDesk desk) {
        for (int what : new int[] {0, 1, 2, 4}) {
            due(when + ": register(" + what + ")", desk.register(what), 0);
        }
    }

    /** The registers from 0 on are these. */
    static void registers(String when, SignDesk desk, int... due) {
        for (int what = 0; what < due.length; what++) {
            due(when + ": register(" + what + ")", desk.register(what), due[what]);
        }
    }

    private static String show(String text) {
        String shown = text.replace("\n", "\\n").replace("\r", "\\r").replace("\t", "\\t");
        return '"' + (shown.length() > 60 ? shown.substring(0, 60) + ".." : shown) + '"';
    }
}
