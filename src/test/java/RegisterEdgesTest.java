/** Promise 9, register: a test for each of the things that it tells, at their edges. */
public final class RegisterEdgesTest {
    public static void main(String[] args) {
        aAndD();
        next();
        words();
        done();
        symbols();
        noSymbolsWithAFault();
        bytes();
        another();
        Check.end();
    }

    private static void aAndD() {
        Check.sentence("0 A, 1 D (-32768 .. 32767)");
        SignDesk desk = Check.desk("@32767\nAD=A+1\nA=A-1\nD=D-1\nAD=-1\nA=0");
        int[] a = {32767, -32768, 32767, 32767, -1, 0};
        int[] d = {0, -32768, -32768, 32767, -1, -1};
        for (int i = 0; i < a.length; i++) {
            desk.go(1);
            Check.due("A behind " + i, desk.register(0), a[i]);
            Check.due("D behind " + i, desk.register(1), d[i]);
        }
    }

    private static void next() {
        Check.sentence("2 the number of the instruction that is next");
        SignDesk desk = Check.desk("@2\n0;JMP\n@32767\n0;JMP");
        int[] next = {1, 2, 3, 32767, 32767};
        Check.due("next", desk.register(2), 0);
        for (int i = 0; i < next.length; i++) {
            desk.go(1);
            Check.due("next behind " + i, desk.register(2), next[i]);
        }
        SignDesk full = Check.desk("0\n".repeat(600));
        full.go(2000);
        Check.due("next behind 600", full.register(2), 600);
    }

    private static void words() {
        Check.sentence("3 how many words there are");
        Check.due("none", new SignDesk().register(3), 0);
        Check.due("of labels", Check.desk("(a)\n(b)\n//\n").register(3), 0);
        Check.due("one", Check.desk("@1").register(3), 1);
        Check.due("599", Check.desk("0\n".repeat(599)).register(3), 599);
        Check.due("600", Check.desk("0\n".repeat(600)).register(3), 600);
    }

    private static void done() {
        Check.sentence("4 how many instructions were done since the last read()");
        SignDesk desk = Check.desk("@0\n0;JMP");
        int[] steps = {0, 1, 2000, 2001, -1, 2000, 7};
        int[] done = {0, 1, 2001, 2001, 2001, 4001, 4008};
        for (int i = 0; i < steps.length; i++) {
            desk.go(steps[i]);
            Check.due("done behind go(" + steps[i] + ")", desk.register(4), done[i]);
        }
        Check.put(desk, "@1");
        Check.due("done behind put", desk.register(4), 4008);
        desk.read();
        Check.due("done behind read()", desk.register(4), 0);
        desk.go(2000);
        Check.due("done where it stands still", desk.register(4), 1);
        Check.put(desk, "?");
        desk.read();
        Check.due("done behind a fault", desk.register(4), 0);
    }

    private static void symbols() {
        Check.sentence("5 symbols besides those known");
        Check.due("none", new SignDesk().register(5), 0);
        Check.due("of known ones", Check.desk("@R0\n@R15\n@SP\n@KBD\n@7").register(5), 0);
        Check.due("of one told twice", Check.desk("@a\n@a\n(a)\n@a").register(5), 1);
        Check.due("of a label that is not used", Check.desk("(a)").register(5), 1);
        Check.due("of both kinds", Check.desk("@a\n(b)\n@c\n@R1\n(c)").register(5), 3);
        Check.due("R16 is one", Check.desk("@R16").register(5), 1);
        SignDesk desk = Check.desk("@a\n@b");
        Check.put(desk, "@c");
        Check.due("before the next read", desk.register(5), 2);
        desk.read();
        Check.due("behind it", desk.register(5), 1);
        desk.read();
        Check.due("behind a read of nothing", desk.register(5), 0);
    }

    private static void noSymbolsWithAFault() {
        Check.sentence("(0 with a fault)");
        for (String fault : new String[] {"@a\n(b)\n?", "@a\n(b)\n(b)", "@a\n(SP)", "@a\n@b @c"}) {
            SignDesk desk = Check.desk("@x\n@y");
            Check.put(desk, fault);
            Check.due("a fault", desk.read() > 0, true);
            Check.due("symbols", desk.register(5), 0);
        }
    }

    private static void bytes() {
        Check.sentence("6 bytes of the text");
        SignDesk desk = new SignDesk();
        int due = 0;
        for (int i = 0; i < 240; i++) {
            int n = i % 9;
            boolean isTaken = desk.put(0, n);
            Check.due("put(0, " + n + ")", isTaken, n > 0);
            due += n;
            Check.due("bytes", desk.register(6), due);
        }
        desk.read();
        Check.due("bytes behind the read", desk.register(6), 0);
        SignDesk full = new SignDesk();
        Check.put(full, " ".repeat(2000));
        Check.due("bytes", full.register(6), 2000);
    }

    private static void another() {
        Check.sentence("100000 for another what.");
        SignDesk desk = Check.desk("@1");
        for (int what = -40; what <= 40; what++) {
            if (what < 0 || what > 6) {
                Check.due("register(" + what + ")", desk.register(what), 100000);
            }
        }
        for (int what : new int[] {Integer.MIN_VALUE, -65536, 255, 256, 65536, 100000, Integer.MAX_VALUE}) {
            Check.due("register(" + what + ")", desk.register(what), 100000);
        }
    }
}
