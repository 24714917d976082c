import java.util.ArrayList;
import java.util.HashMap;
import java.util.List;
import java.util.Map;

/** The terms, on what an instruction is made of and its word: a test for each sentence that names an edge. */
public final class InstructionEdgesTest {
    private static final int BYTES = 256;

    public static void main(String[] args) {
        numberHasUpToFiveDigits();
        numberGoesUpTo32767();
        symbolHasUpToSixteenSigns();
        symbolHasItsOwnSigns();
        symbolHasNoDigitFirst();
        destsAreSeven();
        jumpsAreSeven();
        compsAreThoseTold();
        compsWithM();
        wordOfNumber();
        wordOfOthers();
        mInDestAlone();
        Check.end();
    }

    private static void numberHasUpToFiveDigits() {
        Check.sentence("@ and 1 .. 5 digits");
        Check.fault("@", 1, 0);
        Check.fault("@\n1", 1, 0);
        Check.words("@0\n@9\n@00\n@007\n@0007\n@00000\n@00007\n@00070", 0, 9, 0, 7, 7, 0, 7, 70);
        for (String wrong : new String[] {"@000000", "@000001", "@012345", "@100000", "@0000000000", "@4294967296", "@4294967297",
            "@18446744073709551616", "@-1", "@+1", "@-0", "@1.", "@1_", "@1a", "@0x1", "@1e1", "@/", "@:1;", "@1:"}) {
            Check.fault(wrong, 1, 0);
        }
    }

    private static void numberGoesUpTo32767() {
        Check.sentence("up to 32767");
        for (int from = 0; from <= 32767; from += 150) {
            int count = Math.min(150, 32768 - from);
            StringBuilder text = new StringBuilder();
            int[] words = new int[count];
            for (int i = 0; i < count; i++) {
                text.append('@').append(from + i).append('\n');
                words[i] = from + i;
            }
            Check.words(text.toString(), words);
        }
        for (int number = 32768; number <= 32800; number++) {
            Check.fault("@" + number, 1, 0);
        }
        for (int number = 32768; number <= 99999; number += 89) {
            Check.fault("@" + number, 1, 0);
        }
        for (int number : new int[] {65535, 65536, 65537, 98303, 98304, 99999}) {
            Check.fault("@" + number, 1, 0);
        }
    }

    private static void symbolHasUpToSixteenSigns() {
        Check.sentence("A symbol: 1 .. 16");
        Check.fault("@", 1, 0);
        Check.fault("()", 1, 0);
        for (int length = 1; length <= 40; length++) {
            String name = "x".repeat(length);
            if (length <= 16) {
                Check.words("@" + name, 16);
                Check.words("0;JMP\n(" + name + ")\n@" + name, 60039, 1);
            } else {
                Check.fault("@" + name, 1, 0);
                Check.fault("(" + name + ")", 1, 0);
            }
        }
        Check.words("@abcdefghijklmnop\n@abcdefghijklmnoq\n@abcdefghijklmno\n@abcdefghijklmnop", 16, 17, 18, 16);
    }

    private static boolean isLetter(int b) {
        return b >= 'A' && b <= 'Z' || b >= 'a' && b <= 'z';
    }

    private static boolean isDigit(int b) {
        return b >= '0' && b <= '9';
    }

    private static boolean isSymbolSign(int b) {
        return isLetter(b) || isDigit(b) || b == '_' || b == '.' || b == '$' || b == ':';
    }

    private static boolean isGap(int b) {
        return b == 9 || b == 10 || b == 13 || b == 32;
    }

    private static void symbolHasItsOwnSigns() {
        Check.sentence("letters (A .. Z, a .. z), digits, _ . $ :");
        for (int b = 0; b < BYTES; b++) {
            char sign = (char) b;
            if (isSymbolSign(b)) {
                Check.words("@x" + sign + "y", 16);
                Check.words("@x" + sign, 16);
                Check.words("0\n(x" + sign + ")\n@x" + sign, 60032, 1);
            } else {
                Check.fault("@x" + sign + "y", 1, isGap(b) ? 3 : 0);
                Check.fault("(x" + sign + "y)", 1, 0);
                if (b != ')') {
                    Check.fault("(x" + sign + ")", 1, 0);
                }
            }
        }
        Check.words("@x\n@X\n@xX\n@Xx\n@x", 16, 17, 18, 19, 16);
    }

    private static void symbolHasNoDigitFirst() {
        Check.sentence("and no digit first.");
        for (int b = 0; b < BYTES; b++) {
            char sign = (char) b;
            if (isSymbolSign(b) && !isDigit(b)) {
                Check.words("@" + sign, 16);
                Check.words("@" + sign + "1", sign == 'R' ? 1 : 16);
                Check.words("0\n(" + sign + ")\n@" + sign, 60032, 1);
            } else {
                Check.fault("@" + sign + "x", 1, 0);
                Check.fault("(" + sign + "x)", 1, 0);
                Check.fault("(" + sign + ")", 1, 0);
            }
        }
    }

    private static void destsAreSeven() {
        Check.sentence("dest: M D MD A AM AD AMD.");
        Map<String, Integer> dests = new HashMap<>();
        for (String dest : "M D MD A AM AD AMD".split(" ")) {
            dests.put(dest, dests.size() + 1);
        }
        String signs = "AMDam";
        for (String dest : texts(signs, 4)) {
            Integer number = dests.get(dest);
            if (number != null) {
                Check.words(dest + "=0", 57344 + 64 * 42 + 8 * number);
            } else {
                Check.fault(dest + "=0", 1, 0);
            }
        }
    }

    /** All texts of one to so many of the signs. */
    private static List<String> texts(String signs, int longest) {
        List<String> texts = new ArrayList<>(List.of(""));
        for (int i = 0; i < texts.size(); i++) {
            String start = texts.get(i);
            for (int k = 0; k < signs.length() && start.length() < longest; k++) {
                texts.add(start + signs.charAt(k));
            }
        }
        return texts.subList(1, texts.size());
    }

    private static void jumpsAreSeven() {
        Check.sentence("jump: JGT 1 JEQ 2 JGE 3 JLT 4 JNE 5 JLE 6 JMP 7.");
        Map<String, Integer> jumps = new HashMap<>();
        for (String jump : "JGT JEQ JGE JLT JNE JLE JMP".split(" ")) {
            jumps.put(jump, jumps.size() + 1);
        }
        for (char second = 'A'; second <= 'Z'; second++) {
            for (char third = 'A'; third <= 'Z'; third++) {
                String jump = "J" + second + third;
                Integer number = jumps.get(jump);
                if (number != null) {
                    Check.words("D;" + jump, 57344 + 64 * 12 + number);
                } else {
                    Check.fault("D;" + jump, 1, 0);
                }
            }
        }
        for (String jump : jumps.keySet()) {
            Check.fault("D;" + jump.toLowerCase(), 1, 0);
            Check.fault("D;" + jump.substring(1), 1, 0);
            Check.fault("D;" + jump.substring(0, 2), 1, 0);
            Check.fault("D;" + jump + jump.charAt(2), 1, 0);
            Check.fault("D;" + jump + ")", 1, 0);
        }
    }

    private static Map<String, Integer> comps() {
        Map<String, Integer> comps = new HashMap<>();
        String told = "0 42, 1 63, -1 58, D 12, A 48, !D 13, !A 49, -D 15, -A 51, D+1 31, A+1 55, D-1 14, A-1 50, D+A 2, D-A 19, "
            + "A-D 7, D&A 0, D|A 21";
        for (String one : told.split(", ")) {
            comps.put(one.split(" ")[0], Integer.parseInt(one.split(" ")[1]));
        }
        return comps;
    }

    private static void compsAreThoseTold() {
        Check.sentence("comp, and its six bits as a number");
        compsOver("01AD+-!&|", comps(), 0);
        for (String wrong : new String[] {"D+11", "D+A+1", "D-A-1", "0D", "D+a", "d+A", "!!D", "--1", "-D+1", "D+1+", "D*A", "D^A", "~D"}) {
            Check.fault(wrong, 1, 0);
        }
    }

    /** Of all texts of one to three of these signs, just the comps that are given are comps. */
    private static void compsOver(String signs, Map<String, Integer> comps, int more) {
        for (String comp : texts(signs, 3)) {
            Integer bits = comps.get(comp);
            if (bits != null) {
                Check.words(comp, 57344 + 64 * bits + (comp.indexOf('M') >= 0 ? more : 0));
            } else {
                Check.fault(comp, 1, 0);
            }
        }
    }

    private static void compsWithM() {
        Check.sentence("these with M for A, and 4096 more in the word.");
        Map<String, Integer> both = new HashMap<>(comps());
        for (Map.Entry<String, Integer> one : comps().entrySet()) {
            both.put(one.getKey().replace('A', 'M'), one.getValue());
        }
        Check.due("comps", both.size(), 28);
        compsOver("01ADM+-!&|", both, 4096);
    }

    private static void wordOfNumber() {
        Check.sentence("WORDS: of @ the number");
        Check.words("@0\n@32767\n@R15\n@KBD\n@x\n(l)\n@l", 0, 32767, 15, 24576, 16, 5);
    }

    private static void wordOfOthers() {
        Check.sentence("of others 57344 + 64 * bits (4096 more with M) + 32 for A, 16 for D, 8 for M in dest + jump");
        Check.words("D&A", 57344);
        Check.words("D&M", 61440);
        Check.words("AMD=1;JMP", 61439);
        Check.words("AMD=M+1;JMP", 65023);
        Check.words("A=D&A\nD=D&A\nM=D&A", 57344 + 32, 57344 + 16, 57344 + 8);
        Check.words("AM=D&A\nAD=D&A\nMD=D&A\nAMD=D&A", 57344 + 40, 57344 + 48, 57344 + 24, 57344 + 56);
    }

    private static void mInDestAlone() {
        Check.sentence("(M in dest alone is no 4096).");
        Check.words("M=0\nMD=A\nAM=D\nAMD=D|A", 60040, 60440, 58152, 58744);
        Check.words("M=M\nMD=M", 64520, 64536);
        Check.words("D=M\nD=A", 64528, 60432);
    }
}
