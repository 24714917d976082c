/** Promise 6: go, with what each instruction does. */
public final class GoTest {
    public static void main(String[] args) {
        counts();
        comps();
        roundTheEnd();
        dests();
        jumps();
        addressesHaveFifteenBits();
        programOfTheTerms();
        Check.end();
    }

    private static void counts() {
        SignDesk desk = Check.desk("@1\n@2\n@3");
        Check.due("go(-1)", desk.go(-1), -1);
        Check.due("go(2001)", desk.go(2001), -1);
        Check.due("go(min)", desk.go(Integer.MIN_VALUE), -1);
        Check.due("go(max)", desk.go(Integer.MAX_VALUE), -1);
        Check.blankProcessor("after refused calls", desk);
        Check.due("go(0)", desk.go(0), 0);
        Check.blankProcessor("after go(0)", desk);
        Check.due("go(1)", desk.go(1), 1);
        Check.due("A", desk.register(0), 1);
        Check.due("next", desk.register(2), 1);
        Check.due("go(9)", desk.go(9), 2);
        Check.due("A", desk.register(0), 3);
        Check.due("next", desk.register(2), 3);
        Check.due("go(9)", desk.go(9), 0);
        Check.due("done", desk.register(4), 3);
        SignDesk ring = Check.desk("(l)\n@l\n0;JMP");
        Check.due("go(2000)", ring.go(2000), 2000);
        Check.due("go(2000)", ring.go(2000), 2000);
        Check.due("go(1)", ring.go(1), 1);
        Check.due("done", ring.register(4), 4001);
        Check.due("next", ring.register(2), 1);
    }

    private static int compOf(String comp, int d, int y) {
        switch (comp.replace('M', 'A')) {
            case "0": return 0;
            case "1": return 1;
            case "-1": return -1;
            case "D": return d;
            case "A": return y;
            case "!D": return ~d;
            case "!A": return ~y;
            case "-D": return (short) -d;
            case "-A": return (short) -y;
            case "D+1": return (short) (d + 1);
            case "A+1": return (short) (y + 1);
            case "D-1": return (short) (d - 1);
            case "A-1": return (short) (y - 1);
            case "D+A": return (short) (d + y);
            case "D-A": return (short) (d - y);
            case "A-D": return (short) (y - d);
            case "D&A": return d & y;
            case "D|A": return d | y;
            default: throw new IllegalArgumentException(comp);
        }
    }

    private static void comps() {
        int[] samples = {0, 1, -1, 2, 5, 12345, -12345, 32767, -32768, 21845, -21846};
        for (String ofA : CodeTest.COMPS) {
            for (String comp : new String[] {ofA, ofA.replace('A', 'M')}) {
                for (int d : samples) {
                    for (int y : samples) {
                        compute(comp, d, y);
                    }
                }
            }
        }
    }

    private static void compute(String comp, int d, int y) {
        boolean ofM = comp.indexOf('M') >= 0;
        SignDesk desk = Check.desk("@1\nD=M\n@2\n" + (ofM ? "" : "A=M\n") + "D=" + comp);
        desk.set(1, d);
        desk.set(2, y);
        int steps = ofM ? 4 : 5;
        Check.due("go", desk.go(2000), steps);
        Check.due(comp + " of " + d + " and " + y, desk.register(1), compOf(comp, d, y));
        Check.due("A", desk.register(0), ofM ? 2 : y);
    }

    private static void roundTheEnd() {
        SignDesk desk = Check.desk("@32767\nD=A\nD=D+1\nA=D\nAMD=A-1");
        desk.go(3);
        Check.due("32767 + 1", desk.register(1), -32768);
        desk.go(2);
        Check.due("-32768 - 1", desk.register(1), 32767);
        Check.due("A", desk.register(0), 32767);
        Check.due("store(0)", desk.store(0), 32767);
    }

    private static void dests() {
        for (int i = 0; i < CodeTest.DESTS.length; i++) {
            String dest = CodeTest.DESTS[i];
            SignDesk desk = Check.desk("@500\n" + dest + "-1");
            Check.due("go(5)", desk.go(5), 2);
            Check.due(dest + "-1: A", desk.register(0), dest.contains("A") ? -1 : 500);
            Check.due(dest + "-1: D", desk.register(1), dest.contains("D") ? -1 : 0);
            Check.due(dest + "-1: store(500)", desk.store(500), dest.contains("M") ? -1 : 0);
            Check.due(dest + "-1: store(32767)", desk.store(32767), 0);
        }
        SignDesk old = Check.desk("@500\nAMD=M+1\nAMD=M+1");
        old.set(500, 600);
        old.set(601, 7);
        Check.due("go(3)", old.go(3), 3);
        Check.due("store(500)", old.store(500), 601);
        Check.due("store(601)", old.store(601), 8);
        Check.due("A", old.register(0), 8);
        Check.due("D", old.register(1), 8);
    }

    private static void jumps() {
        boolean[][] due = {{false, false, false}, {true, false, false}, {false, true, false}, {true, true, false},
            {false, false, true}, {true, false, true}, {false, true, true}, {true, true, true}};
        int[][] values = {{1, 2, 32767}, {0}, {-1, -2, -32768}};
        for (int j = 0; j < 8; j++) {
            for (int sign = 0; sign < 3; sign++) {
                for (int value : values[sign]) {
                    SignDesk desk = Check.desk("@1\nD=M\n@7\nD" + CodeTest.JUMPS[j] + "\n@9");
                    desk.set(1, value);
                    Check.due("go(4)", desk.go(4), 4);
                    Check.due("D" + CodeTest.JUMPS[j] + " at " + value, desk.register(2), due[j][sign] ? 7 : 4);
                    Check.due("go(4)", desk.go(4), due[j][sign] ? 0 : 1);
                }
            }
        }
        SignDesk old = Check.desk("@3\nA=-1;JLT\n@5\nD=A+1;JMP\n@9\n@8");
        Check.due("go(2)", old.go(2), 2);
        Check.due("it jumps to A as it was", old.register(2), 3);
        Check.due("A", old.register(0), -1);
        Check.due("go(1)", old.go(1), 1);
        Check.due("it jumps to the lowest 15 bits of A", old.register(2), 32767);
        Check.due("D", old.register(1), 0);
        Check.due("it stands still", old.go(100), 0);
        Check.due("next", old.register(2), 32767);
        SignDesk last = Check.desk("@1\n0;JMP\n@2");
        Check.due("a ring of one", last.go(50), 50);
        SignDesk wide = Check.desk("@32767\nA=A+1\n0;JMP");
        Check.due("go(4), -32768 is instruction 0", wide.go(4), 4);
        Check.due("next", wide.register(2), 1);
        Check.due("A", wide.register(0), 32767);
    }

    private static void addressesHaveFifteenBits() {
        SignDesk desk = Check.desk("@32767\nA=A+1\nM=1\nA=A+1\nM=-1\nA=-1\nMD=M+1\nA=A-1\nAD=M");
        desk.set(32767, 41);
        desk.set(32766, 77);
        Check.due("go(7)", desk.go(7), 7);
        Check.due("store(0)", desk.store(0), 1);
        Check.due("store(1)", desk.store(1), -1);
        Check.due("store(32767)", desk.store(32767), 42);
        Check.due("D", desk.register(1), 42);
        Check.due("go(2)", desk.go(2), 2);
        Check.due("A", desk.register(0), 77);
        Check.due("D", desk.register(1), 77);
    }

    private static void programOfTheTerms() {
        SignDesk desk = Check.desk("// 3 * 14\n@3\nD=A\n@n\nM=D\n(loop)\n@14\nD=A\n@sum\nM=D+M\n@n\nMD=M-1\n@loop\nD;JGT\n");
        Check.due("go(2000)", desk.go(2000), 4 + 3 * 8);
        Check.due("sum", desk.store(17), 42);
        Check.due("n", desk.store(16), 0);
        Check.due("next", desk.register(2), 12);
    }
}
