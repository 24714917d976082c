/** The terms, on the store and what an instruction does: a test for each sentence that names an edge. */
public final class ProcessorEdgesTest {
    private static final int[] SAMPLES = {0, 1, -1, 2, -2, 255, 256, 21845, -21846, 16384, -16384, 32766, 32767, -32767, -32768};

    public static void main(String[] args) {
        zeroAtFirst();
        storeOf32768Words();
        addressGoesToA();
        addressHasFifteenBits();
        compsTakeThemAsTheyAre();
        plusAndMinusGoRound();
        bitByBit();
        resultGoesAsDestSays();
        jumpsLookAtTheSign();
        jumpGoesToAAsItWas();
        jumpTakesFifteenBits();
        elseTheOneBehind();
        whereThereIsNone();
        Check.end();
    }

    private static void zeroAtFirst() {
        Check.sentence("A STORE of 32768 words, A, D and the instruction that is next are 0 at first.");
        Check.registers("a new object", new SignDesk(), 0, 0, 0);
        Check.registers("behind a read", Check.desk("@5\nAMD=-1"), 0, 0, 0);
        SignDesk sum = Check.desk("D=D+A\nD=D+M");
        sum.go(2);
        Check.due("A + D + M at first", sum.register(1), 0);
        for (int from = 0; from < 32768; from += 256) {
            SignDesk desk = new SignDesk();
            for (int i = from; i < from + 256; i++) {
                Check.due("store(" + i + ") at first", desk.store(i), 0);
            }
        }
    }

    private static void storeOf32768Words() {
        Check.sentence("A STORE of 32768 words");
        for (int from = 0; from < 32768; from += 128) {
            SignDesk desk = new SignDesk();
            for (int i = from; i < from + 128; i++) {
                Check.due("set(" + i + ")", desk.set(i, 32767 - i), true);
            }
            for (int i = from; i < from + 128; i++) {
                Check.due("store(" + i + ") behind set", desk.store(i), 32767 - i);
            }
            Check.due("the word in front", desk.store((from + 32767) % 32768), 0);
            Check.due("the word behind", desk.store((from + 128) % 32768), 0);
        }
        SignDesk last = Check.desk("@32767\nM=-1\n@0\nM=1");
        last.go(4);
        Check.due("store(32767)", last.store(32767), -1);
        Check.due("store(0)", last.store(0), 1);
        Check.due("store(1)", last.store(1), 0);
        Check.due("store(32766)", last.store(32766), 0);
    }

    private static void addressGoesToA() {
        Check.sentence("@: A is it.");
        SignDesk desk = Check.desk("@0\n@32767\n@SCREEN\n@KBD\n@x\n@R15");
        int[] due = {0, 32767, 16384, 24576, 16, 15};
        for (int i = 0; i < due.length; i++) {
            Check.due("go(1)", desk.go(1), 1);
            Check.registers("behind @ " + i, desk, due[i], 0, i + 1);
        }
    }

    private static void addressHasFifteenBits() {
        Check.sentence("the word M at address A (its lowest 15 bits)");
        for (int a : SAMPLES) {
            int address = a & 32767;
            SignDesk desk = Check.desk("@77\nA=M\nD=M\nM=D+1\nM=M+1");
            desk.set(77, a);
            desk.set(address, 500);
            Check.due("go(3)", desk.go(3), 3);
            Check.due("D=M at A " + a, desk.register(1), 500);
            Check.due("A", desk.register(0), a);
            Check.due("go(2)", desk.go(2), 2);
            Check.due("M=D+1 and M=M+1 at A " + a, desk.store(address), 502);
            Check.due("A", desk.register(0), a);
        }
    }

    private static void compsTakeThemAsTheyAre() {
        Check.sentence("what comp says of A, D and the word M at address A as they are");
        for (String comp : "0 1 -1 D A M !D !A !M -D -A -M D+1 A+1 M+1 D-1 A-1 M-1 D+A D+M D-A D-M A-D M-D D&A D&M D|A D|M".split(" ")) {
            SignDesk desk = Check.desk("@13\nD=A\n@6\nAMD=" + comp);
            desk.set(6, 99);
            int due = valueOf(comp, 6, 13, 99);
            Check.due("go(4)", desk.go(4), 4);
            Check.registers("AMD=" + comp, desk, due, due, 4);
            Check.due("AMD=" + comp + ": store(6)", desk.store(6), due);
        }
    }

    private static int valueOf(String comp, int a, int d, int m) {
        int y = comp.indexOf('M') >= 0 ? m : a;
        switch (comp.replace('M', 'A')) {
            case "0": return 0;
            case "1": return 1;
            case "-1": return -1;
            case "D": return d;
            case "A": return y;
            case "!D": return -d - 1;
            case "!A": return -y - 1;
            case "-D": return -d;
            case "-A": return -y;
            case "D+1": return d + 1;
            case "A+1": return y + 1;
            case "D-1": return d - 1;
            case "A-1": return y - 1;
            case "D+A": return d + y;
            case "D-A": return d - y;
            case "A-D": return y - d;
            case "D&A": return d & y;
            case "D|A": return d | y;
            default: throw new IllegalArgumentException(comp);
        }
    }

    private static int sixteenBits(int value) {
        int rest = Math.floorMod(value, 65536);
        return rest < 32768 ? rest : rest - 65536;
    }

    /** D, the comp of D and of A or M, and what it is due to be. */
    private static void compute(String comp, int d, int y) {
        boolean ofM = comp.indexOf('M') >= 0;
        SignDesk desk = Check.desk("@1\nD=M\n@2\n" + (ofM ? "" : "A=M\n") + "D=" + comp);
        desk.set(1, d);
        desk.set(2, y);
        desk.go(10);
        Check.due(comp + " of D " + d + " and " + y, desk.register(1), sixteenBits(valueOf(comp, y, d, y)));
    }

    private static void computeAll(String comps) {
        for (String comp : comps.split(" ")) {
            for (int d : SAMPLES) {
                for (int y : SAMPLES) {
                    compute(comp, d, y);
                }
            }
        }
    }

    private static void plusAndMinusGoRound() {
        Check.sentence("16 bits, signs as above (+ - go round");
        computeAll("-D -A -M D+1 A+1 M+1 D-1 A-1 M-1 D+A D+M D-A D-M A-D M-D");
        SignDesk desk = Check.desk("@32767\nAMD=A+1\nAMD=-A\nAMD=D-1\nD=D+1");
        desk.go(2);
        Check.registers("32767 + 1", desk, -32768, -32768);
        Check.due("store(32767)", desk.store(32767), -32768);
        desk.go(1);
        Check.registers("-(-32768)", desk, -32768, -32768);
        Check.due("store(0)", desk.store(0), -32768);
        desk.go(1);
        Check.registers("-32768 - 1", desk, 32767, 32767);
        Check.due("store(0)", desk.store(0), 32767);
        desk.go(1);
        Check.registers("32767 + 1", desk, 32767, -32768);
    }

    private static void bitByBit() {
        Check.sentence("& | ! bit by bit)");
        computeAll("!D !A !M D&A D&M D|A D|M");
        for (int bit = 0; bit < 16; bit++) {
            compute("D&A", 1 << bit, -1);
            compute("D|M", 1 << bit, 0);
            compute("!A", 0, 1 << bit);
            compute("D&M", 1 << bit, ~(1 << bit));
            compute("D|A", 1 << bit, ~(1 << bit));
        }
    }

    private static void resultGoesAsDestSays() {
        Check.sentence("it goes to M at A as it was, to A, to D, as dest says");
        for (String dest : new String[] {"", "M=", "D=", "MD=", "A=", "AM=", "AD=", "AMD="}) {
            SignDesk desk = Check.desk("@4\nD=A\n@500\n" + dest + "A+1");
            desk.set(500, 9);
            desk.set(501, 8);
            Check.due("go(4)", desk.go(4), 4);
            Check.due(dest + ": A", desk.register(0), dest.contains("A") ? 501 : 500);
            Check.due(dest + ": D", desk.register(1), dest.contains("D") ? 501 : 4);
            Check.due(dest + ": store(500)", desk.store(500), dest.contains("M") ? 501 : 9);
            Check.due(dest + ": store(501)", desk.store(501), 8);
        }
    }

    private static void jumpsLookAtTheSign() {
        Check.sentence("if it is above 0, 0, below 0 and so on as jump says");
        for (int value : SAMPLES) {
            boolean[] due = {false, value > 0, value == 0, value >= 0, value < 0, value != 0, value <= 0, true};
            String[] jumps = {"", ";JGT", ";JEQ", ";JGE", ";JLT", ";JNE", ";JLE", ";JMP"};
            for (int j = 0; j < jumps.length; j++) {
                SignDesk desk = Check.desk("@1\nD=M\n@300\nD" + jumps[j]);
                desk.set(1, value);
                Check.due("go(4)", desk.go(4), 4);
                Check.due("D" + jumps[j] + " of " + value, desk.register(2), due[j] ? 300 : 4);
            }
        }
        SignDesk round = Check.desk("@32767\nD=A\n@9\nD+1;JLT");
        round.go(4);
        Check.due("32767 + 1 is below 0", round.register(2), 9);
        SignDesk zero = Check.desk("D=-1\n@9\nMD=D+1;JEQ");
        zero.go(3);
        Check.due("-1 + 1 is 0", zero.register(2), 9);
    }

    private static void jumpGoesToAAsItWas() {
        Check.sentence("the instruction of number A as it was is next");
        SignDesk desk = Check.desk("@3\nA=A+1;JMP\n@1\n@0\nAMD=-1;JMP");
        Check.due("go(2)", desk.go(2), 2);
        Check.registers("A=A+1;JMP", desk, 4, 0, 3);
        Check.due("go(2)", desk.go(2), 2);
        Check.registers("AMD=-1;JMP", desk, -1, -1, 0);
        Check.due("store(0)", desk.store(0), -1);
        SignDesk self = Check.desk("@1\n0;JMP");
        Check.due("a jump to itself", self.go(2000), 2000);
        Check.registers("a jump to itself", self, 1, 0, 1, 2, 2000);
    }

    private static void jumpTakesFifteenBits() {
        Check.sentence("the instruction of number A as it was (lowest 15 bits) is next");
        for (int a : SAMPLES) {
            SignDesk desk = Check.desk("@77\nA=M\n0;JMP");
            desk.set(77, a);
            Check.due("go(3)", desk.go(3), 3);
            Check.registers("a jump with A " + a, desk, a, 0, a & 32767);
        }
    }

    private static void elseTheOneBehind() {
        Check.sentence("else the one behind.");
        SignDesk desk = Check.desk("@0\nD=1;JEQ\n1;JLT\n-1;JGE\n0;JNE\nM=0");
        for (int i = 1; i <= 6; i++) {
            Check.due("go(1)", desk.go(1), 1);
            Check.due("next", desk.register(2), i);
        }
    }

    private static void whereThereIsNone() {
        Check.sentence("Where there is none it stands still.");
        SignDesk none = new SignDesk();
        Check.due("go(2000) without words", none.go(2000), 0);
        Check.registers("without words", none, 0, 0, 0, 0, 0);
        SignDesk behind = Check.desk("@1\n@2");
        Check.due("go(3) of two", behind.go(3), 2);
        Check.due("go(1)", behind.go(1), 0);
        Check.registers("behind the last", behind, 2, 0, 2, 2, 2);
        for (int number : new int[] {2, 3, 599, 600, 601, 32766, 32767}) {
            SignDesk jumped = Check.desk("@" + number + "\nD=A;JMP");
            Check.due("go(2000)", jumped.go(2000), 2);
            Check.due("go(2000)", jumped.go(2000), 0);
            Check.registers("a jump to " + number, jumped, number, number, number, 2, 2);
        }
        SignDesk full = Check.desk("0\n".repeat(598) + "@600\nD=A;JMP");
        Check.due("go(2000)", full.go(2000), 600);
        Check.registers("behind 600", full, 600, 600, 600, 600, 600);
        SignDesk shorter = Check.desk("@1\n@2\n@3");
        Check.put(shorter, "@4");
        shorter.read();
        Check.due("go(9) of the shorter text", shorter.go(9), 1);
        Check.registers("the shorter text", shorter, 4, 0, 1, 1, 1);
    }
}
