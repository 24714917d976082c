/** Promise 1: no text, no words; all of the processor is 0. Objects share nothing. */
public final class NewObjectTest {
    public static void main(String[] args) {
        SignDesk desk = new SignDesk();
        for (int what = 0; what <= 6; what++) {
            Check.due("register(" + what + ")", desk.register(what), 0);
        }
        Check.due("place()", desk.place(), -1);
        Check.due("code(0)", desk.code(0), -1);
        Check.due("go(2000)", desk.go(2000), 0);
        for (int address : new int[] {0, 1, 255, 256, 16384, 24576, 32767}) {
            Check.due("store(" + address + ")", desk.store(address), 0);
        }
        otherObjectIsNotTouched();
        Check.end();
    }

    private static void otherObjectIsNotTouched() {
        SignDesk one = Check.desk("@x\nM=1\nD=-1");
        one.go(3);
        one.set(9, 9);
        Check.put(one, "@5");
        SignDesk other = new SignDesk();
        for (int what = 0; what <= 6; what++) {
            Check.due("other's register(" + what + ")", other.register(what), 0);
        }
        Check.due("other's store(9)", other.store(9), 0);
        Check.due("other's store(16)", other.store(16), 0);
        Check.due("other's code(0)", other.code(0), -1);
        Check.due("one's store(9)", one.store(9), 9);
        Check.due("one's store(16)", one.store(16), 1);
    }
}
