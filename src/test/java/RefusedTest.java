import java.util.ArrayList;
import java.util.List;

/** The sentence behind the terms: all memory is the class's own, and a call that is refused changes nothing. */
public final class RefusedTest {
    private static final String PROGRAM = "@x\nMD=-1\n(l)\n@300\nM=D\nD=D-1\n@l\nA;JMP";
    private static final int[] OUTSIDE = {Integer.MIN_VALUE, -65536, -32768, -1, 32768, 65535, 65536, 100000, Integer.MAX_VALUE};

    public static void main(String[] args) {
        memoryIsItsOwn();
        refusedPut();
        refusedPutIntoAFullText();
        refusedGo();
        refusedSet();
        answersForNothing();
        Check.end();
    }

    private static void memoryIsItsOwn() {
        Check.sentence("All memory is the class's own.");
        SignDesk one = running();
        SignDesk other = new SignDesk();
        same("a new object beside one that is used", look(other), look(new SignDesk()));
        SignDesk third = running();
        other = faulty();
        other.set(16, 55);
        other.go(2000);
        other.read();
        same("an object beside one that is used", look(one), look(third));
    }

    /** Has words, has run, and has a text that waits. */
    private static SignDesk running() {
        SignDesk desk = Check.desk(PROGRAM);
        desk.go(9);
        desk.set(32767, -5);
        Check.put(desk, "@12\n(a)\n@b");
        return desk;
    }

    /** Has had a fault, and has a text that waits. */
    private static SignDesk faulty() {
        SignDesk desk = new SignDesk();
        Check.put(desk, "@1\n ?");
        desk.read();
        desk.set(0, 4);
        Check.put(desk, "@77\nD=A");
        return desk;
    }

    /** Has room for so many bytes more. */
    private static SignDesk nearlyFull(int room) {
        SignDesk desk = Check.desk("@5\nD=A");
        desk.go(1);
        Check.put(desk, " ".repeat(1990 - room) + "\n@4567\n@12");
        return desk;
    }

    /** All that the calls tell, then what two steps do, then what the waiting text becomes. */
    private static List<Integer> look(SignDesk desk) {
        List<Integer> seen = new ArrayList<>();
        lookAtState(desk, seen);
        seen.add(desk.go(2));
        lookAtState(desk, seen);
        seen.add(desk.read());
        lookAtState(desk, seen);
        return seen;
    }

    private static void lookAtState(SignDesk desk, List<Integer> seen) {
        for (int what = 0; what <= 6; what++) {
            seen.add(desk.register(what));
        }
        seen.add(desk.place());
        for (int i = 0; i < 9; i++) {
            seen.add(desk.code(i));
        }
        for (int address : new int[] {0, 1, 7, 15, 16, 17, 255, 256, 299, 300, 301, 16384, 32766, 32767}) {
            seen.add(desk.store(address));
        }
    }

    private static void same(String when, List<Integer> seen, List<Integer> due) {
        Check.due(when + ": what is seen", seen.size(), due.size());
        for (int i = 0; i < due.size(); i++) {
            Check.due(when + ": look " + i, seen.get(i), due.get(i));
        }
    }

    private static void refusedPut() {
        Check.sentence("A call that is refused changes nothing. (put, n not 1 .. 8)");
        for (int n : new int[] {Integer.MIN_VALUE, -8, -1, 0, 9, 10, 16, 256, 257, Integer.MAX_VALUE}) {
            for (long v : new long[] {0, -1, 0x3F3F3F3F3F3F3F3FL}) {
                SignDesk desk = running();
                Check.due("put(" + v + ", " + n + ")", desk.put(v, n), false);
                same("behind put(.., " + n + ")", look(desk), look(running()));
                SignDesk second = faulty();
                Check.due("put(" + v + ", " + n + ")", second.put(v, n), false);
                same("behind put(.., " + n + ") and a fault", look(second), look(faulty()));
            }
        }
    }

    private static void refusedPutIntoAFullText() {
        Check.sentence("A call that is refused changes nothing. (put, more than 2000)");
        for (int room = 0; room < 8; room++) {
            for (int n = room + 1; n <= 8; n++) {
                SignDesk desk = nearlyFull(room);
                Check.due("put(.., " + n + ") with room for " + room, desk.put(0x3333333333333333L, n), false);
                same("behind put(.., " + n + ") with room for " + room, look(desk), look(nearlyFull(room)));
            }
            SignDesk filled = nearlyFull(room);
            filled.put(0x3F3F3F3F3F3F3F3FL, room + 1);
            for (int i = 0; i < room; i++) {
                Check.due("a byte into the room", filled.put(i < 3 ? '0' : ' ', 1), true);
            }
            Check.due("bytes", filled.register(6), 2000);
            Check.due("read()", filled.read(), 0);
            Check.due("code(0)", filled.code(0), 4567);
            Check.due("code(1)", filled.code(1), new int[] {12, 120, 1200, 12000}[Math.min(room, 3)]);
        }
    }

    private static void refusedGo() {
        Check.sentence("A call that is refused changes nothing. (go, n not 0 .. 2000)");
        for (int n : new int[] {Integer.MIN_VALUE, -2000, -1, 2001, 2002, 65536, Integer.MAX_VALUE}) {
            SignDesk desk = running();
            Check.due("go(" + n + ")", desk.go(n), -1);
            same("behind go(" + n + ")", look(desk), look(running()));
            SignDesk second = faulty();
            Check.due("go(" + n + ")", second.go(n), -1);
            same("behind go(" + n + ") and a fault", look(second), look(faulty()));
        }
    }

    private static void refusedSet() {
        Check.sentence("A call that is refused changes nothing. (set, address not 0 .. 32767)");
        for (int address : OUTSIDE) {
            SignDesk desk = running();
            Check.due("set(" + address + ", 99)", desk.set(address, 99), false);
            same("behind set(" + address + ", 99)", look(desk), look(running()));
        }
    }

    private static void answersForNothing() {
        Check.sentence("A call that is refused changes nothing. (store, code and register of another)");
        for (int number : OUTSIDE) {
            SignDesk desk = running();
            Check.due("store(" + number + ")", desk.store(number), 100000);
            Check.due("code(" + number + ")", desk.code(number), -1);
            Check.due("register(" + number + ")", desk.register(number), 100000);
            same("behind calls with " + number, look(desk), look(running()));
        }
    }
}
