/** The terms, on faults and on the numbers of symbols: a test for each sentence that names an edge. */
public final class FaultEdgesTest {
    public static void main(String[] args) {
        firstFromTheLeft();
        whatIsNoInstruction();
        secondInItsLine();
        sixHundredInstructions();
        labelsAreNone();
        fortySymbols();
        knownOnesAreNotCounted();
        labelThatWasTold();
        labelThatIsKnown();
        knownSymbols();
        labelIsTheNumberBehind();
        othersFrom16On();
        Check.end();
    }

    /** So many lines, with the numbers from 0 on in the place of the #. */
    private static String lines(String line, int count) {
        StringBuilder text = new StringBuilder();
        for (int i = 0; i < count; i++) {
            text.append(line.replace("#", "" + i)).append('\n');
        }
        return text.toString();
    }

    private static void firstFromTheLeft() {
        Check.sentence("FAULTS, the first one from the left, at the instruction's first byte");
        String good = lines("(s#)", 40);
        String[] lines = {"?", "\t 0 x", "@t", " (t)", "(SP)", "\r(s39)", "@32768 // x"};
        int[] faults = {1, 1, 2, 2, 3, 3, 1};
        int[] places = {0, 4, 0, 1, 0, 1, 0};
        for (int i = 0; i < lines.length; i++) {
            Check.fault(good + lines[i], faults[i], good.length() + places[i]);
            for (String other : lines) {
                Check.fault(good + lines[i] + "\n" + other + "\n", faults[i], good.length() + places[i]);
                Check.fault(good + "@s0\n" + lines[i] + "\n@s1\n" + other, faults[i], good.length() + 4 + places[i]);
            }
        }
        Check.fault("?", 1, 0);
        Check.fault("(SP)", 3, 0);
        Check.fault(" ".repeat(1999) + "?", 1, 1999);
        Check.fault("\n".repeat(1996) + "(R9)", 3, 1996);
        Check.fault("(a) (a) (a)", 1, 4);
        Check.fault("(SP) (SP)", 3, 0);
    }

    private static void whatIsNoInstruction() {
        Check.sentence("1 what is no such instruction (with all up to a blank, // or the line's end)");
        for (String behind : new String[] {"", " ", "\t", "\r", "\n", "//", " //", "// 0", "\n//0"}) {
            Check.words("@1" + behind, 1);
            Check.fault("@1?" + behind, 1, 0);
            Check.fault("  @?1" + behind, 1, 2);
            Check.fault("0\n?" + behind, 1, 2);
            Check.fault("0\n(a)?" + behind, 1, 2);
            Check.fault("0\nD=A?" + behind + " 0", 1, 2);
            Check.fault("0\nD;?" + behind + "\n0", 1, 2);
        }
        Check.fault("D=A/", 1, 0);
        Check.fault("D=A/ /", 1, 0);
        Check.fault("@1/2", 1, 0);
        Check.fault("@1,@2", 1, 0);
        Check.fault("(a//)", 1, 0);
        Check.fault("D=//A", 1, 0);
        Check.fault("@//1", 1, 0);
        Check.fault("?".repeat(2000), 1, 0);
    }

    private static void secondInItsLine() {
        Check.sentence("or a second one in its line");
        String[] kinds = {"@1", "@a", "(b)", "D", "M=0;JMP"};
        for (String first : kinds) {
            for (String second : kinds) {
                for (String blanks : new String[] {" ", "\t", "\r", " \r\t "}) {
                    Check.fault(first + blanks + second, 1, first.length() + blanks.length());
                    Check.fault("\n" + blanks + first + blanks + second + blanks + "// x", 1,
                        1 + first.length() + 2 * blanks.length());
                }
                Check.due("read() of two lines", Check.desk(first + "\n" + second.replace("b", "c") + "\n").register(2), 0);
            }
            Check.due("read() of a comment behind", Check.desk(first + " //" + first).register(2), 0);
        }
    }

    private static void sixHundredInstructions() {
        Check.sentence("2 a 601st instruction");
        Check.due("words", Check.desk("0\n".repeat(599)).register(3), 599);
        Check.due("words", Check.desk("0\n".repeat(600)).register(3), 600);
        Check.due("words", Check.desk("@0\n".repeat(600)).register(3), 600);
        Check.due("words", Check.desk("@x\n".repeat(599) + "D").register(3), 600);
        Check.due("words", Check.desk("0\n".repeat(600) + "\n // @1\n").register(3), 600);
        Check.fault("0\n".repeat(601), 2, 1200);
        Check.fault("0\n".repeat(600) + " \t0", 2, 1202);
        Check.fault("0\n".repeat(600) + "@0", 2, 1200);
        Check.fault("0\n".repeat(600) + "@x", 2, 1200);
        Check.fault("0\n".repeat(600) + "@SP", 2, 1200);
        Check.fault("0\n".repeat(600) + "M=D;JMP", 2, 1200);
        Check.fault("@x\n".repeat(600) + "//\n@x", 2, 1803);
        Check.fault("0\n".repeat(1000), 2, 1200);
        Check.fault("0\n".repeat(600) + "?", 1, 1200);
        Check.fault("0\n".repeat(600) + "@32768", 1, 1200);
    }

    private static void labelsAreNone() {
        Check.sentence("(labels are none)");
        SignDesk before = Check.desk(lines("(s#)", 40) + "0\n".repeat(599) + "@s39");
        Check.due("words", before.register(3), 600);
        Check.due("code(599)", before.code(599), 0);
        SignDesk behind = Check.desk("@s39\n" + "0\n".repeat(599) + lines("(s#)", 40));
        Check.due("words", behind.register(3), 600);
        Check.due("code(0)", behind.code(0), 600);
        Check.fault("0\n".repeat(600) + "(a)\n(b)\n1", 2, 1208);
        Check.fault("0\n".repeat(600) + "(SP)", 3, 1200);
        Check.fault("0\n".repeat(300) + "(a)\n" + "0\n".repeat(300) + "(a)", 3, 1204);
    }

    private static void fortySymbols() {
        Check.sentence("a 41st symbol");
        Check.due("symbols", Check.desk(lines("@s#", 39)).register(5), 39);
        Check.due("symbols", Check.desk(lines("@s#", 40)).register(5), 40);
        Check.due("symbols", Check.desk(lines("(s#)", 40)).register(5), 40);
        Check.due("symbols", Check.desk(lines("@s#", 20) + lines("(t#)", 20)).register(5), 40);
        Check.due("symbols", Check.desk(lines("@s#", 40) + lines("(s#)", 40) + lines("@s#", 40)).register(5), 40);
        String at = lines("@s#", 40);
        String labels = lines("(s#)", 40);
        String mixed = lines("@s#", 20) + lines("(t#)", 20);
        for (String full : new String[] {at, labels, mixed}) {
            Check.fault(full + "@s40", 2, full.length());
            Check.fault(full + " (s40)", 2, full.length() + 1);
            Check.fault(full + "@S0", 2, full.length());
            Check.fault(full + "@s0\n@s00", 2, full.length() + 4);
            Check.fault(full + "@5x", 1, full.length());
        }
        Check.fault(labels + "(s0)", 3, labels.length());
        Check.fault(lines("@s#", 100), 2, at.length());
    }

    private static void knownOnesAreNotCounted() {
        Check.sentence("(but those known)");
        String known = lines("@R#", 16) + "@SP\n@LCL\n@ARG\n@THIS\n@THAT\n@SCREEN\n@KBD\n";
        Check.due("symbols", Check.desk(known).register(5), 0);
        Check.due("symbols", Check.desk(known + lines("@s#", 40)).register(5), 40);
        SignDesk behind = Check.desk(lines("@s#", 40) + known);
        Check.due("symbols", behind.register(5), 40);
        Check.due("words", behind.register(3), 63);
        Check.due("code(62)", behind.code(62), 24576);
        Check.fault(lines("@s#", 40) + known + "@R16", 2, lines("@s#", 40).length() + known.length());
        Check.fault(lines("@s#", 40) + "(KBD)", 3, lines("@s#", 40).length());
    }

    private static void labelThatWasTold() {
        Check.sentence("3 a label that was told");
        Check.fault("(x)\n(x)", 3, 4);
        Check.fault("(x)\n@x\n(x)", 3, 7);
        Check.fault("@x\n(x)\n \t(x) //", 3, 9);
        Check.fault("(x)\n" + "0\n".repeat(600) + "(x)", 3, 1204);
        Check.fault("(abcdefghijklmnop)\n(abcdefghijklmnop)", 3, 19);
        Check.fault(lines("(s#)", 40) + "(s39)", 3, 230);
        Check.words("(x)\n(X)\n(xx)\n(x.)\n@x", 0);
        Check.words("@x\n@x\n(x)", 2, 2);
        SignDesk again = Check.desk("(x)\n@x");
        Check.put(again, "@1\n(x)\n@x");
        Check.due("an earlier text's label", again.read(), 0);
        Check.due("code(1)", again.code(1), 1);
        Check.put(again, "@x");
        Check.due("an earlier text's label", again.read(), 0);
        Check.due("code(0)", again.code(0), 16);
    }

    private static void labelThatIsKnown() {
        Check.sentence("or is known.");
        for (int i = 0; i <= 15; i++) {
            Check.fault("(R" + i + ")", 3, 0);
        }
        for (String name : "SP LCL ARG THIS THAT SCREEN KBD".split(" ")) {
            Check.fault("(" + name + ")", 3, 0);
            Check.fault("@" + name + "\n\t(" + name + ")", 3, name.length() + 3);
            Check.words("(" + name.toLowerCase() + ")\n@" + name.toLowerCase(), 0);
            Check.words("(" + name + "_)\n@" + name + "_", 0);
            Check.words("(" + name.substring(1) + ")\n@" + name.substring(1), 0);
        }
        for (String name : "R R16 R00 R01 R010 R150".split(" ")) {
            Check.words("(" + name + ")\n@" + name, 0);
        }
    }

    private static void knownSymbols() {
        Check.sentence("KNOWN symbols: R0 .. R15 0 .. 15, SP 0, LCL 1, ARG 2, THIS 3, THAT 4, SCREEN 16384, KBD 24576.");
        for (int i = 0; i <= 15; i++) {
            Check.words("@x\n@R" + i, 16, i);
        }
        Check.words("@SP\n@LCL\n@ARG\n@THIS\n@THAT\n@SCREEN\n@KBD", 0, 1, 2, 3, 4, 16384, 24576);
        Check.words("@R16\n@R17\n@R00\n@R01\n@R015\n@R\n@r0\n@r15\n@R1_", 16, 17, 18, 19, 20, 21, 22, 23, 24);
        Check.words("@sp\n@Sp\n@S\n@SPP\n@LC\n@AR\n@THI\n@THIST\n@SCREE\n@SCREENS\n@KB\n@KBDK\n@D\n@JMP\n@AMD",
            16, 17, 18, 19, 20, 21, 22, 23, 24, 25, 26, 27, 28, 29, 30);
    }

    private static void labelIsTheNumberBehind() {
        Check.sentence("A label is the number of the instruction behind it (anywhere in the text).");
        Check.words("(a)\n@a", 0);
        Check.words("@a\n(a)", 1);
        Check.words("@a\n(a)\n(b)\n@b\n(c)", 1, 1);
        Check.words("@c\n@b\n@a\n(a)\n// x\n\n(b)\n@a\n(c)\n@b\n@c", 4, 3, 3, 3, 3, 4);
        Check.words("(a)\n(b)\n(c)\n@c", 0);
        SignDesk last = Check.desk("@a\n" + "0\n".repeat(598) + "(b)\n@b\n(a)");
        Check.due("code(0), a label behind 600", last.code(0), 600);
        Check.due("code(599), its own number", last.code(599), 599);
    }

    private static void othersFrom16On() {
        Check.sentence("Others are 16, 17, .. in the order in which they first come behind an @.");
        Check.words("@a", 16);
        Check.words("@b\n@a\n@b\n@c\n@a", 16, 17, 16, 18, 17);
        Check.words("@l\n@b\n(l)\n@a\n@b", 2, 16, 17, 16);
        Check.words("(unused)\n@a\n(late)\n@b\n@late\n@c", 16, 17, 1, 18);
        Check.words("@R5\n@a\n@SP\n@b\n@21\n@c", 5, 16, 0, 17, 21, 18);
        SignDesk forty = Check.desk(lines("@s#", 40) + "@s0\n@s39");
        for (int i = 0; i < 40; i++) {
            Check.due("code(" + i + ")", forty.code(i), 16 + i);
        }
        Check.due("code(40)", forty.code(40), 16);
        Check.due("code(41)", forty.code(41), 55);
        SignDesk mixed = Check.desk(lines("@s#", 40) + lines("(s#)", 39));
        Check.due("code(0), a label", mixed.code(0), 40);
        Check.due("code(39), the one other", mixed.code(39), 16);
    }
}
