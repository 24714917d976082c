/** The terms, from LINES to the four forms of an instruction: a test for each sentence that names an edge. */
public final class LineEdgesTest {
    private static final int BYTES = 256;

    public static void main(String[] args) {
        tenOrTheTextsEndEndsALine();
        blanksAreThree();
        commentGoesToTheLinesEnd();
        instructionHasNoBlanksWithin();
        addressIsANumberOrASymbol();
        labelHasBothItsSigns();
        destAndJumpMayBeMissing();
        Check.end();
    }

    private static boolean isBlank(int b) {
        return b == 9 || b == 13 || b == 32;
    }

    private static boolean isDigit(int b) {
        return b >= '0' && b <= '9';
    }

    private static void tenOrTheTextsEndEndsALine() {
        Check.sentence("LINES end with 10 or the text's end.");
        Check.words("");
        Check.words("\n");
        Check.words("@1", 1);
        Check.words("@1\n", 1);
        Check.words("@1\n@2", 1, 2);
        Check.words("\n\n@1\n\n\n@2\n\n", 1, 2);
        Check.words(" ".repeat(1998) + "@7", 7);
        Check.words(" ".repeat(1997) + "@7\n", 7);
        for (int b = 0; b < BYTES; b++) {
            if (b != 10) {
                Check.fault("@1" + (char) b + "@2", 1, isBlank(b) ? 3 : 0);
            }
        }
    }

    private static void blanksAreThree() {
        Check.sentence("In a line: blanks (9, 13, 32), perhaps an INSTRUCTION, blanks");
        Check.words(" ");
        Check.words(" ".repeat(2000));
        Check.words("\t\r \n \r\t");
        Check.words("\t\r \r\t@8\t\r \r\t", 8);
        for (int b = 0; b < BYTES; b++) {
            boolean isNothing = isBlank(b) || b == 10;
            boolean isComp = "01DAM".indexOf(b) >= 0;
            if (isNothing) {
                Check.words("" + (char) b);
                Check.words((char) b + "@5", 5);
                Check.words("@5" + (char) b, 5);
            } else {
                Check.fault((char) b + "@5", 1, 0);
            }
            if (!isNothing && !isComp) {
                Check.fault("" + (char) b, 1, 0);
            }
            if (!isNothing && !isDigit(b)) {
                Check.fault("@5" + (char) b, 1, 0);
            }
        }
    }

    private static void commentGoesToTheLinesEnd() {
        Check.sentence("perhaps a comment from // to the line's end.");
        Check.words("//");
        Check.words("///");
        Check.words("////");
        Check.words("//\n@1//\n//\n@2 //", 1, 2);
        Check.words(" ".repeat(1998) + "//");
        Check.words("//" + "?".repeat(1998));
        Check.words("//" + "?".repeat(1995) + "\n@6", 6);
        Check.words("// @1 // @2\n@3 // (SP) // ?\n@4", 3, 4);
        Check.words("//\r@1\n@2//\r@3", 2);
        Check.fault("/", 1, 0);
        Check.fault("/ /", 1, 0);
        Check.fault("/\n/", 1, 0);
        Check.fault("@1 /", 1, 3);
        Check.fault("@1/\n/@2", 1, 0);
        Check.fault(" ".repeat(1999) + "/", 1, 1999);
        for (int b = 0; b < BYTES; b++) {
            if (b == 10) {
                Check.words("@5//" + (char) b + "@6", 5, 6);
            } else {
                Check.words("@5//" + (char) b + "@6", 5);
            }
        }
    }

    private static void instructionHasNoBlanksWithin() {
        Check.sentence("An instruction has no blanks within");
        blankAtEachPlace("@12", 2);
        blankAtEachPlace("@ab", 2);
        blankAtEachPlace("(ab)");
        blankAtEachPlace("AD=D+1;JMP", 1, 4, 6);
        blankAtEachPlace("M=-1", 1);
        blankAtEachPlace("!D");
    }

    /** With a blank behind one of the told lengths there are two instructions, else the first is none. */
    private static void blankAtEachPlace(String instruction, int... lengths) {
        for (int i = 1; i < instruction.length(); i++) {
            int place = 0;
            for (int length : lengths) {
                place = i == length ? i + 1 : place;
            }
            for (char blank : new char[] {9, 13, 32}) {
                Check.fault(instruction.substring(0, i) + blank + instruction.substring(i), 1, place);
            }
        }
    }

    private static void addressIsANumberOrASymbol() {
        Check.sentence("@ and a SYMBOL");
        Check.words("@a\n@R3\n@l\n(l)\n@M\n@D", 16, 3, 3, 17, 18);
        for (String wrong : new String[] {"@", "@@", "@@a", "a@", "@a@", "@a@b", "@(a)", "@a)", "@a=0", "D=@a", "@a;JMP", "@-a", "@!a"}) {
            Check.fault(wrong, 1, 0);
            Check.fault("@0\n" + wrong + "\n@0", 1, 3);
        }
        Check.fault(" ".repeat(1999) + "@", 1, 1999);
        Check.words(" ".repeat(1998) + "@a", 16);
    }

    private static void labelHasBothItsSigns() {
        Check.sentence("( symbol ): a LABEL");
        Check.words("(a)");
        Check.words("(a)\n@a", 0);
        for (String wrong : new String[] {"(", ")", "()", "(a", "a)", "((a)", "(a))", "(a)(", "(a)(b)", "(a)b", "(a)@b", "(a)0",
            "(@a)", "(1)", "(1a)", "(a-b)", "(a;b)", "()a", ")a(", "[a]", "{a}"}) {
            Check.fault(wrong, 1, 0);
            Check.fault("@0\n" + wrong + "\n@0", 1, 3);
        }
        Check.fault(" ".repeat(1999) + "(", 1, 1999);
        Check.fault(" ".repeat(1998) + "(a", 1, 1998);
    }

    private static void destAndJumpMayBeMissing() {
        Check.sentence("or [dest =] comp [; jump].");
        Check.words("D\nM=D\nD;JGT\nM=D;JGT", 58112, 58120, 58113, 58121);
        for (String wrong : new String[] {"=", ";", "=;", "=D", "D=", "M=", ";JGT", "D;", "M=;JGT", "=D;JGT", "M=D;", "=D;",
            "M==D", "M=D=", "=M=D", "M=M=D", "D;;JGT", "D;JGT;", ";D;JGT", "D;JGT;JGT", "D;JGT=M", "JGT;D", "D;M=D", "JGT",
            "M=JGT", "D;M", "D:JGT", "M-=D", "M=D,JGT"}) {
            Check.fault(wrong, 1, 0);
        }
    }
}
