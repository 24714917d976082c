/** Promise 3: read, with its faults; the words themselves are in CodeTest. */
public final class ReadTest {
    public static void main(String[] args) {
        linesAndComments();
        textIsGoneAndProcessorIsBlank();
        faultTakesTheWords();
        wrongInstructions();
        secondInstructions();
        tooMany();
        labels();
        tiesGoToTheFirstFault();
        Check.end();
    }

    private static void linesAndComments() {
        Check.words("");
        Check.words("\n\n\n");
        Check.words(" \t\r \n//\n  // D=A @5 (x\r\n/// ) \0\u00ff");
        Check.words("//@1");
        Check.words(" \t\r@1 \t\r\n\r\t @2//two\n@3 // three @4\n@5///five", 1, 2, 3, 5);
        Check.words("@1\n@2", 1, 2);
        Check.words("@1\r\n@2\r\n", 1, 2);
        Check.words("@x//y\n@y//x", 16, 17);
        Check.words("@1///\nD;JMP///\n///", 1, 58119);
        Check.words("// (x)\n@x", 16);
    }

    private static void textIsGoneAndProcessorIsBlank() {
        SignDesk desk = Check.desk("@7\nD=A\n@300\nM=D");
        Check.due("bytes", desk.register(6), 0);
        Check.due("go(9)", desk.go(9), 4);
        desk.set(32767, -1);
        Check.put(desk, "@1");
        Check.due("store(300) after put", desk.store(300), 7);
        Check.due("D after put", desk.register(1), 7);
        Check.due("code(0) after put", desk.code(0), 7);
        Check.due("read()", desk.read(), 0);
        Check.blankProcessor("after read", desk);
        Check.due("store(300)", desk.store(300), 0);
        Check.due("store(32767)", desk.store(32767), 0);
        Check.due("words", desk.register(3), 1);
        Check.due("code(0)", desk.code(0), 1);
        Check.due("read() of nothing", desk.read(), 0);
        Check.due("words", desk.register(3), 0);
    }

    private static void faultTakesTheWords() {
        SignDesk desk = Check.desk("@x\nMD=-1\nA=D");
        Check.due("symbols", desk.register(5), 1);
        Check.due("go(3)", desk.go(3), 3);
        Check.put(desk, "@1\n@y\n?");
        Check.due("read()", desk.read(), 1);
        Check.due("place()", desk.place(), 6);
        Check.due("code(0)", desk.code(0), -1);
        Check.due("words", desk.register(3), 0);
        Check.due("symbols", desk.register(5), 0);
        Check.due("bytes", desk.register(6), 0);
        Check.blankProcessor("after a fault", desk);
        Check.due("store(16)", desk.store(16), 0);
        Check.due("go(1)", desk.go(1), 0);
        Check.put(desk, "@z");
        Check.due("read()", desk.read(), 0);
        Check.due("place()", desk.place(), -1);
        Check.due("code(0)", desk.code(0), 16);
        Check.due("symbols", desk.register(5), 1);
    }

    private static void wrongInstructions() {
        String[] wrong = {"@", "@32768", "@99999", "@000001", "@-1", "@+1", "@1a", "@a-b", "@a@", "@@a", "@a#",
            "@12345678901234567890", "@4294967296", "@abcdefghijklmnopq", "@(a)", "(", ")", "()", "(a", "a)", "(1)",
            "(1a)", "(a))", "((a)", "(a)b", "(abcdefghijklmnopq)", "(a-b)", "(@a)", "/", "/@1", "@1/", "D=A/", "=", ";",
            "=D", "D=", ";JMP", "D;", "D=;JMP", "D=D;", "D=A=M", "D==A", "D;JGT;JGT", "D;;JGT", "D;JGT=D", "d", "a=D",
            "D=a", "D;jmp", "D;JXX", "D;JG", "D;JGTT", "D;GT", "DM=1", "DA=1", "MA=1", "DMA=1", "ADM=1", "MAD=1", "MDA=1",
            "DD=1", "MM=1", "AA=1", "AMDA=1", "X=1", "0=1", "2", "-2", "!0", "!1", "-0", "+1", "10", "01", "--1", "1+D",
            "1+A", "1+M", "1-D", "A+D", "M+D", "A&D", "M&D", "A|D", "M|D", "D+D", "A+A", "D&D", "A+M", "A-M", "M-A",
            "A&M", "A|M", "D^A", "D*A", "D+2", "D-", "D+", "D&1", "D|1", "!", "-", "~D", "!!D", "-!D", "JMP", "D,JMP",
            "AD", "MD", "AMD", "X", "R0", "\0", "\u00c4", "@\u00e4", "\u00a0", "\u000b", "\f", "D=\u00c1", "D:JMP"};
        for (String text : wrong) {
            Check.fault(text, 1, 0);
            Check.fault("@1 // one\n \t" + text + " // x\n@a\n(a)\n(a)", 1, 12);
            Check.fault("@1\n" + text + "\r//", 1, 3);
        }
        Check.fault("D =A", 1, 2);
        Check.fault("D= A", 1, 0);
        Check.fault("@ 5", 1, 0);
        Check.fault("( a )", 1, 0);
        Check.fault("D; JMP", 1, 0);
        Check.fault("/ /", 1, 0);
        Check.fault("@1\n@a\n(b//)\n", 1, 6);
    }

    private static void secondInstructions() {
        Check.fault("D=A D=M", 1, 4);
        Check.fault("@1\t@2", 1, 3);
        Check.fault("@1\r@2", 1, 3);
        Check.fault("(a) @2", 1, 4);
        Check.fault("@2 (a)", 1, 3);
        Check.fault("(a) (b)", 1, 4);
        Check.fault("\n\n@1 x // y", 1, 5);
        Check.fault("D+ 1 1", 1, 0);
        Check.words("@1 // @2\n@3", 1, 3);
    }

    private static void tooMany() {
        Check.due("words", Check.desk("0\n".repeat(600)).register(3), 600);
        Check.due("words", Check.desk("@1\n".repeat(600) + "//@1\n \n").register(3), 600);
        Check.fault("0\n".repeat(601), 2, 1200);
        Check.fault("@1\n".repeat(600) + " @2", 2, 1801);
        Check.fault("0\n".repeat(600) + "@a", 2, 1200);
        Check.fault("0\n".repeat(600) + "@R1", 2, 1200);
        Check.fault("0\n".repeat(600) + "(a)\n(b)\n1", 2, 1208);
        Check.fault("0\n".repeat(600) + "@", 1, 1200);
        SignDesk labelsBehind = Check.desk("@a\n" + "0\n".repeat(599) + "(a)\n(b)\n");
        Check.due("code(0)", labelsBehind.code(0), 600);
        Check.due("symbols", labelsBehind.register(5), 2);

        String forty = symbols("@s", "\n", 40);
        Check.due("symbols", Check.desk(forty).register(5), 40);
        Check.due("the fortieth", Check.desk(forty).code(39), 55);
        Check.fault(forty + "@s40", 2, forty.length());
        Check.fault(forty + "(s40)", 2, forty.length());
        Check.due("symbols", Check.desk(forty + "@s0\n@R7\n@KBD\n(s39)\n@s39").register(5), 40);
        String labels = symbols("(s", ")\n", 40);
        Check.due("symbols", Check.desk(labels).register(5), 40);
        Check.fault(labels + "@t", 2, labels.length());
        Check.fault(labels + "\n(t)", 2, labels.length() + 1);
        Check.due("symbols", Check.desk(symbols("@s", "\n", 20) + symbols("(s", ")\n", 40)).register(5), 40);
    }

    private static String symbols(String before, String behind, int count) {
        StringBuilder text = new StringBuilder();
        for (int i = 0; i < count; i++) {
            text.append(before).append(i).append(behind);
        }
        return text.toString();
    }

    private static void labels() {
        Check.fault("(x)\n(x)", 3, 4);
        Check.fault("@x\n(x)\n(x)", 3, 7);
        Check.fault("(x)\n@x\n0\n \t(x) // again", 3, 11);
        String[] known = {"R0", "R1", "R9", "R10", "R15", "SP", "LCL", "ARG", "THIS", "THAT", "SCREEN", "KBD"};
        for (String name : known) {
            Check.fault("(" + name + ")", 3, 0);
            Check.fault("@1\n (" + name + ")", 3, 4);
        }
        for (String name : new String[] {"R16", "R00", "R", "r0", "sp", "SP0", "S", "SCREEN.", "KB", "R0:", "JMP", "D"}) {
            SignDesk desk = Check.desk("0\n(" + name + ")\n@" + name);
            Check.due(name + " as a label", desk.code(1), 1);
        }
        Check.due("symbols", Check.desk("(x)\n(X)\n(xx)\n@x").register(5), 3);
    }

    private static void tiesGoToTheFirstFault() {
        Check.fault("(x)\n?\n(x)", 1, 4);
        Check.fault("(x)\n(x)\n?", 3, 4);
        Check.fault("(R0) ?", 3, 0);
        Check.fault("@1 (R0)", 1, 3);
        Check.fault("(x)\n@1 (x)", 1, 7);
        Check.fault("0\n".repeat(599) + "0 0", 1, 1200);
        String forty = symbols("(s", ")\n", 40);
        Check.fault(forty + "(s0)", 3, forty.length());
        Check.fault(forty + "(SP)", 3, forty.length());
        Check.fault(forty + "@1 @t", 1, forty.length() + 3);
    }
}
