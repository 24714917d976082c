/** Promise 2: put. */
public final class PutTest {
    public static void main(String[] args) {
        highestByteComesFirst();
        wrongCountsAreRefused();
        atMostTwoThousandBytes();
        Check.end();
    }

    private static void highestByteComesFirst() {
        SignDesk desk = new SignDesk();
        Check.due("put @12", desk.put(0x403132L, 3), true);
        Check.due("put 3", desk.put(0x7777777777777733L, 1), true);
        Check.due("put 4 of a negative v", desk.put(-256L + 0x34, 1), true);
        Check.due("bytes", desk.register(6), 5);
        Check.due("put eight", desk.put(0x0A443D410A443D2DL, 8), true);
        Check.due("put one", desk.put('1', 1), true);
        Check.due("bytes", desk.register(6), 14);
        Check.due("read()", desk.read(), 0);
        Check.due("code(0)", desk.code(0), 1234);
        Check.due("code(1), D=A", desk.code(1), 57344 + 64 * 48 + 16);
        Check.due("code(2), D=-1", desk.code(2), 57344 + 64 * 58 + 16);
        Check.due("words", desk.register(3), 3);

        SignDesk negative = new SignDesk();
        Check.due("put of eight high bytes", negative.put(-1L, 8), true);
        Check.due("bytes", negative.register(6), 8);
        Check.due("read()", negative.read(), 1);
        Check.due("place()", negative.place(), 0);
    }

    private static void wrongCountsAreRefused() {
        SignDesk desk = new SignDesk();
        Check.due("put(@, 1)", desk.put('@', 1), true);
        for (int n : new int[] {0, -1, 9, 10, 256, Integer.MIN_VALUE, Integer.MAX_VALUE}) {
            Check.due("put(0, " + n + ")", desk.put(0, n), false);
            Check.due("bytes", desk.register(6), 1);
        }
        Check.due("put(7, 1)", desk.put('7', 1), true);
        Check.due("read()", desk.read(), 0);
        Check.due("code(0)", desk.code(0), 7);
    }

    private static void atMostTwoThousandBytes() {
        SignDesk desk = new SignDesk();
        for (int i = 0; i < 249; i++) {
            Check.due("put of blanks", desk.put(0x2020202020202020L, 8), true);
        }
        Check.due("put of four", desk.put(0x20202020L, 4), true);
        Check.due("bytes", desk.register(6), 1996);
        Check.due("put of five at 1996", desk.put(0x2020202020L, 5), false);
        Check.due("put of eight at 1996", desk.put(0x2020202020202020L, 8), false);
        Check.due("bytes", desk.register(6), 1996);
        Check.due("put of four at 1996", desk.put(0x20204039L, 4), true);
        Check.due("bytes", desk.register(6), 2000);
        Check.due("put of one at 2000", desk.put('1', 1), false);
        Check.due("bytes", desk.register(6), 2000);
        Check.due("read()", desk.read(), 0);
        Check.due("code(0)", desk.code(0), 9);
        Check.due("bytes", desk.register(6), 0);
        Check.due("put after the read", desk.put('1', 1), true);
        Check.due("bytes", desk.register(6), 1);
    }
}
