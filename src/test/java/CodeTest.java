/** Promise 5: code, with every word that the terms tell. */
public final class CodeTest {
    static final String[] COMPS = {"0", "1", "-1", "D", "A", "!D", "!A", "-D", "-A", "D+1", "A+1", "D-1", "A-1", "D+A",
        "D-A", "A-D", "D&A", "D|A"};
    static final int[] BITS = {42, 63, 58, 12, 48, 13, 49, 15, 51, 31, 55, 14, 50, 2, 19, 7, 0, 21};
    static final String[] DESTS = {"", "M=", "D=", "MD=", "A=", "AM=", "AD=", "AMD="};
    static final int[] DEST_BITS = {0, 8, 16, 24, 32, 40, 48, 56};
    static final String[] JUMPS = {"", ";JGT", ";JEQ", ";JGE", ";JLT", ";JNE", ";JLE", ";JMP"};

    public static void main(String[] args) {
        numbers();
        symbols();
        others();
        placesWithoutAWord();
        Check.end();
    }

    private static void numbers() {
        Check.words("@0\n@1\n@00000\n@00007\n@9\n@10\n@12345\n@32767\n@032", 0, 1, 0, 7, 9, 10, 12345, 32767, 32);
    }

    private static void symbols() {
        for (int i = 0; i <= 15; i++) {
            Check.words("@R" + i, i);
        }
        Check.words("@SP\n@LCL\n@ARG\n@THIS\n@THAT\n@SCREEN\n@KBD", 0, 1, 2, 3, 4, 16384, 24576);
        Check.words("@R16\n@r0\n@Sp\n@R00\n@R016\n@SCREE\n@SCREENS\n@R\n@R1:", 16, 17, 18, 19, 20, 21, 22, 23, 24);
        Check.words("@b\n@a\n@b\n@B\n@a", 16, 17, 16, 18, 17);
        Check.words("@_\n@.\n@$\n@:\n@Az09_.$:\n@Zz", 16, 17, 18, 19, 20, 21);
        Check.words("@abcdefghijklmnop\n@abcdefghijklmnoq\n@abcdefghijklmno\n@abcdefghijklmnop", 16, 17, 18, 16);
        Check.words("(abcdefghijklmnop)\n@x\n@abcdefghijklmnop", 16, 0);
        Check.words("@end\n@i\n(mid)\n@mid\n@j\n@end\n(end)\n(too)\n@too\n@last\n(last)", 5, 16, 2, 17, 5, 5, 7);
        Check.words("(a)\n(b)\n@b\n@a", 0, 0);
        Check.words("@x\n@y\n(x)\n@z", 2, 16, 17);
    }

    private static void others() {
        for (int c = 0; c < COMPS.length; c++) {
            for (int d = 0; d < DESTS.length; d++) {
                StringBuilder text = new StringBuilder();
                int[] words = new int[COMPS[c].indexOf('A') < 0 ? 8 : 16];
                for (int i = 0; i < words.length; i++) {
                    String comp = i < 8 ? COMPS[c] : COMPS[c].replace('A', 'M');
                    text.append(DESTS[d]).append(comp).append(JUMPS[i % 8]).append('\n');
                    words[i] = 57344 + 64 * BITS[c] + DEST_BITS[d] + i % 8 + (i < 8 ? 0 : 4096);
                }
                Check.words(text.toString(), words);
            }
        }
        Check.words("0;JMP\nM=0\nAMD=D|M;JLE\nD&A\nM=M+1", 60039, 60040, 62846, 57344, 64968);
    }

    private static void placesWithoutAWord() {
        SignDesk desk = Check.desk("@5\n@6");
        Check.due("code(1)", desk.code(1), 6);
        for (int i : new int[] {-1, 2, 3, 599, 600, 601, Integer.MIN_VALUE, Integer.MAX_VALUE}) {
            Check.due("code(" + i + ")", desk.code(i), -1);
        }
        SignDesk full = Check.desk("@1\n".repeat(599) + "@2");
        Check.due("code(599)", full.code(599), 2);
        Check.due("code(600)", full.code(600), -1);
    }
}
