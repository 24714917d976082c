/** Promise 7: set. */
public final class SetTest {
    public static void main(String[] args) {
        SignDesk desk = new SignDesk();
        int[] values = {0, 1, -1, 32767, 32768, 65535, 65536, 98304, -32768, -32769, Integer.MAX_VALUE, Integer.MIN_VALUE};
        int[] words = {0, 1, -1, 32767, -32768, -1, 0, -32768, -32768, 32767, -1, 0};
        for (int address : new int[] {0, 1, 255, 256, 16383, 32767}) {
            for (int i = 0; i < values.length; i++) {
                Check.due("set(" + address + ", " + values[i] + ")", desk.set(address, values[i]), true);
                Check.due("store(" + address + ")", desk.store(address), words[i]);
            }
            Check.due("set(" + address + ", " + address + ")", desk.set(address, address), true);
        }
        for (int address : new int[] {-1, -32768, 32768, 65536, 65537, Integer.MIN_VALUE, Integer.MAX_VALUE}) {
            Check.due("set(" + address + ", 9)", desk.set(address, 9), false);
        }
        for (int address : new int[] {0, 1, 255, 256, 16383, 32767}) {
            Check.due("store(" + address + ")", desk.store(address), address);
        }
        Check.due("store(2)", desk.store(2), 0);
        Check.due("store(257)", desk.store(257), 0);
        Check.blankProcessor("after set", desk);
        theProcessorSeesIt();
        Check.end();
    }

    private static void theProcessorSeesIt() {
        SignDesk desk = Check.desk("@100\nD=M\nM=M+1");
        Check.due("set(100, 65534)", desk.set(100, 65534), true);
        Check.due("go(3)", desk.go(3), 3);
        Check.due("D", desk.register(1), -2);
        Check.due("store(100)", desk.store(100), -1);
    }
}
