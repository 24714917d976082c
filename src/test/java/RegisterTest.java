/** Promise 9: register. */
public final class RegisterTest {
    public static void main(String[] args) {
        SignDesk desk = Check.desk("@x\nD=-1\n(l)\nA=!A\n@l\n0;JMP\n(never)\n@R3");
        Check.registers("after read", desk, 0, 0, 0, 6, 0, 3, 0);
        desk.go(3);
        Check.registers("after three", desk, -17, -1, 3, 6, 3, 3, 0);
        Check.put(desk, "@1\n@y");
        desk.go(2);
        Check.registers("after five", desk, 2, -1, 2, 6, 5, 3, 5);
        desk.go(2001);
        desk.set(-1, 5);
        desk.put(0, 9);
        Check.registers("after refused calls", desk, 2, -1, 2, 6, 5, 3, 5);
        desk.read();
        Check.registers("after another read", desk, 0, 0, 0, 2, 0, 1, 0);
        desk.go(10);
        Check.registers("where it stands still", desk, 16, 0, 2, 2, 2, 1, 0);
        Check.put(desk, "@a\n@b\n(R1)");
        desk.read();
        Check.registers("after a fault", desk, 0, 0, 0, 0, 0, 0, 0);
        for (int what : new int[] {-1, 7, 8, 100, Integer.MIN_VALUE, Integer.MAX_VALUE}) {
            Check.due("register(" + what + ")", desk.register(what), 100000);
        }
        widest();
        Check.end();
    }

    private static void widest() {
        SignDesk desk = Check.desk("@32767\nAD=A+1\nA=A-1");
        desk.go(2);
        Check.registers("lowest", desk, -32768, -32768, 2, 3, 2, 0, 0);
        desk.go(1);
        Check.registers("highest", desk, 32767, -32768, 3, 3, 3, 0, 0);
    }
}
