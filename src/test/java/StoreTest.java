/** Promise 8: store. */
public final class StoreTest {
    public static void main(String[] args) {
        SignDesk desk = Check.desk("@32767\nMD=-1\n@0\nM=!D;JEQ\n@6\nM=D;JNE\n@9");
        Check.due("go(5)", desk.go(5), 4 + 1);
        Check.due("store(32767)", desk.store(32767), -1);
        Check.due("store(0)", desk.store(0), 0);
        for (int address : new int[] {-1, 32768, 65535, 100000, Integer.MIN_VALUE, Integer.MAX_VALUE}) {
            Check.due("store(" + address + ")", desk.store(address), 100000);
        }
        everyWordIsItsOwn();
        Check.end();
    }

    private static void everyWordIsItsOwn() {
        // A loop writes address + 1 to 3000 words, across whatever the store is made of.
        SignDesk desk = Check.desk("@30000\nD=A\n(l)\n@p\nA=M\nM=D\n@p\nM=M+1\nD=D-1\n@l\nD;JGT");
        desk.set(16, 100);
        for (int i = 0; i < 12; i++) {
            Check.due("go(2000)", desk.go(2000), 2000);
        }
        int written = desk.store(16) - 100;
        Check.due("words written", written, 3000);
        for (int i = 0; i < written; i += 37) {
            Check.due("store(" + (100 + i) + ")", desk.store(100 + i), 30000 - i);
        }
        Check.due("store(99)", desk.store(99), 0);
        Check.due("the word behind", desk.store(100 + written), 0);
        desk.read();
        for (int i = 0; i < written; i += 37) {
            Check.due("store(" + (100 + i) + ") after read", desk.store(100 + i), 0);
        }
    }
}
