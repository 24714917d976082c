/** The calls, promises 1 to 9: a test for each sentence that names an edge. What refused calls leave is in RefusedTest. */
public final class CallEdgesTest {
    private static final int[] FAR = {Integer.MIN_VALUE, Integer.MIN_VALUE + 1, -65537, -65536, -32769, -32768, 65535, 65536, 65537,
        100000, 1 << 24, Integer.MAX_VALUE - 1, Integer.MAX_VALUE};

    public static void main(String[] args) {
        upTo512Calls();
        laterCallsDoNotThrow();
        newObject();
        lowestBytesHighestFirst();
        putOfOneToEight();
        putUpTo2000();
        textHasNoBytesThen();
        textBecomesTheWords();
        faultLeavesNoWords();
        processorIsZeroAgain();
        placeOfTheLastFault();
        noPlaceWithoutOne();
        codeFromZeroOn();
        codeWhereThereIsNone();
        goSoMany();
        goTillItStandsStill();
        goRefused();
        setTakesSixteenBits();
        setRefused();
        storeHasItsRange();
        storeOfAnother();
        Check.end();
    }

    private static void upTo512Calls() {
        Check.sentence("An object is used for at most 512 calls after it has been made");
        SignDesk runner = new SignDesk();
        Check.due("call 1, put @0 and 0;JMP", runner.put(0x40300A303B4A4D50L, 8), true);
        Check.due("call 2, read()", runner.read(), 0);
        for (int call = 3; call <= 511; call++) {
            Check.due("call " + call + ", go(2000)", runner.go(2000), 2000);
        }
        Check.due("call 512, done", runner.register(4), 509 * 2000);
        SignDesk reader = new SignDesk();
        for (int call = 1; call <= 508; call += 3) {
            Check.due("call " + call + ", put", reader.put(0x4078L, 2), true);
            Check.due("call " + (call + 1) + ", set", reader.set(call * 64, call), true);
            Check.due("call " + (call + 2) + ", read()", reader.read(), 0);
        }
        Check.due("call 511, store", reader.store(508 * 64), 0);
        Check.due("call 512, code", reader.code(0), 16);
    }

    /** What they answer is free, but no call may throw or fail to end, in any state. */
    private static void laterCallsDoNotThrow() {
        Check.sentence("what later calls answer is free.");
        SignDesk desk = Check.desk("(l)\n@0\nAM=M+1\n@l\n0;JMP");
        int thrown = 0;
        for (int call = 0; call < 6000; call++) {
            try {
                callAnything(desk, call, call % 3 == 0 ? call : FAR[call % FAR.length]);
            } catch (RuntimeException e) {
                thrown++;
            }
        }
        Check.due("calls that threw", thrown, 0);
    }

    private static void callAnything(SignDesk desk, int kind, int number) {
        desk.put(number * 0x0102030405060708L, kind % 9);
        desk.set(number, kind);
        desk.go(number);
        desk.code(number);
        desk.store(number);
        desk.register(number);
        desk.place();
        if (kind % 50 == 0) {
            desk.read();
        }
    }

    private static void newObject() {
        Check.sentence("SignDesk(): No text, no words; all of the processor is 0.");
        SignDesk desk = new SignDesk();
        Check.registers("new", desk, 0, 0, 0, 0, 0, 0, 0);
        Check.due("code(0)", desk.code(0), -1);
        Check.due("go(1)", desk.go(1), 0);
        Check.due("store(0)", desk.store(0), 0);
        Check.due("store(32767)", desk.store(32767), 0);
        Check.due("read() of no text", desk.read(), 0);
        Check.registers("behind a read of no text", desk, 0, 0, 0, 0, 0, 0, 0);
    }

    private static void lowestBytesHighestFirst() {
        Check.sentence("The lowest n bytes of v, the highest of them first, come behind the text: true");
        int[] numbers = {5, 45, 345, 2345, 12345, 12345, 12345, 12345};
        for (int n = 1; n <= 8; n++) {
            SignDesk desk = new SignDesk();
            String before = n <= 5 ? "@" : "@0\n";
            Check.put(desk, before);
            Check.due("put(blank, 10, @12345 as bytes, " + n + ")", desk.put(0x200A403132333435L, n), true);
            Check.due("bytes", desk.register(6), before.length() + n);
            Check.due("read()", desk.read(), 0);
            Check.due("code", desk.code(n <= 5 ? 0 : 1), numbers[n - 1]);
        }
        for (long v : new long[] {0, -1, Long.MIN_VALUE, Long.MAX_VALUE}) {
            SignDesk any = new SignDesk();
            Check.due("put(" + v + ", 8)", any.put(v, 8), true);
            Check.due("bytes", any.register(6), 8);
            Check.due("read()", any.read(), 1);
            Check.due("place()", any.place(), 0);
        }
        SignDesk negative = new SignDesk();
        Check.due("put of @ below a negative v", negative.put(-256L + '@', 1), true);
        Check.due("put of 7 below a negative v", negative.put(-256L + '7', 1), true);
        Check.due("read()", negative.read(), 0);
        Check.due("code(0)", negative.code(0), 7);
    }

    private static void putOfOneToEight() {
        Check.sentence("false if n is not 1 .. 8");
        for (int n = -20; n <= 30; n++) {
            SignDesk desk = new SignDesk();
            boolean isDue = n >= 1 && n <= 8;
            Check.due("put(0, " + n + ")", desk.put(0x2020202020202020L, n), isDue);
            Check.due("bytes", desk.register(6), isDue ? n : 0);
        }
        for (int n : FAR) {
            SignDesk desk = new SignDesk();
            Check.due("put(0, " + n + ")", desk.put(0x2020202020202020L, n), false);
            Check.due("bytes", desk.register(6), 0);
        }
    }

    private static void putUpTo2000() {
        Check.sentence("or there would be more than 2000.");
        for (int room = 0; room <= 9; room++) {
            for (int n = 0; n <= 9; n++) {
                SignDesk desk = new SignDesk();
                Check.put(desk, " ".repeat(2000 - room));
                boolean isDue = n >= 1 && n <= 8 && n <= room;
                Check.due("put(0, " + n + ") with room for " + room, desk.put(0x2020202020202020L, n), isDue);
                Check.due("bytes", desk.register(6), 2000 - room + (isDue ? n : 0));
                Check.due("read()", desk.read(), 0);
                Check.due("put(0, 8) behind the read", desk.put(0x2020202020202020L, 8), true);
                Check.due("bytes", desk.register(6), 8);
            }
        }
    }

    private static void textHasNoBytesThen() {
        Check.sentence("The text, which has no bytes then, is read");
        for (String text : new String[] {"", "@1", "?", "(SP)", " ".repeat(2000), "?".repeat(2000)}) {
            SignDesk desk = new SignDesk();
            Check.put(desk, text);
            Check.due("bytes", desk.register(6), text.length());
            desk.read();
            Check.due("bytes behind the read", desk.register(6), 0);
            Check.due("read() of nothing", desk.read(), 0);
            Check.due("place()", desk.place(), -1);
            Check.due("words", desk.register(3), 0);
            Check.put(desk, "@3");
            Check.due("bytes", desk.register(6), 2);
            Check.due("read() of @3", desk.read(), 0);
            Check.due("code(0)", desk.code(0), 3);
            Check.due("words", desk.register(3), 1);
        }
    }

    private static void textBecomesTheWords() {
        Check.sentence("0, it has become the words");
        Check.words("");
        Check.words("@1", 1);
        SignDesk desk = Check.desk("@1\n@2\n@3");
        Check.put(desk, "@9");
        Check.due("words before the read", desk.register(3), 3);
        Check.due("code(0) before the read", desk.code(0), 1);
        Check.due("read()", desk.read(), 0);
        Check.due("words", desk.register(3), 1);
        Check.due("code(0)", desk.code(0), 9);
        Check.due("code(1)", desk.code(1), -1);
        Check.due("read() of nothing", desk.read(), 0);
        Check.due("words", desk.register(3), 0);
        Check.due("code(0)", desk.code(0), -1);
    }

    private static void faultLeavesNoWords() {
        Check.sentence("1 to 3 a fault (there are no words then).");
        String forty = "@a0\n@a1\n@a2\n@a3\n@a4\n@a5\n@a6\n@a7\n@a8\n@a9\n";
        forty = forty + forty.replace('a', 'b') + forty.replace('a', 'c') + forty.replace('a', 'd');
        String[] texts = {"@1\n@x\n?", forty + "@x", "@1\n@x\n(SP)"};
        for (int fault = 1; fault <= 3; fault++) {
            SignDesk desk = Check.desk("@1\n@2\n@y");
            Check.put(desk, texts[fault - 1]);
            Check.due("read()", desk.read(), fault);
            Check.registers("behind fault " + fault, desk, 0, 0, 0, 0, 0, 0, 0);
            Check.due("code(0)", desk.code(0), -1);
            Check.due("code(2)", desk.code(2), -1);
            Check.due("go(5)", desk.go(5), 0);
            Check.put(desk, "@z");
            Check.due("read() without one", desk.read(), 0);
            Check.due("words", desk.register(3), 1);
            Check.due("symbols", desk.register(5), 1);
            Check.due("code(0)", desk.code(0), 16);
        }
    }

    private static void processorIsZeroAgain() {
        Check.sentence("All of the processor, with its store, is 0 again.");
        for (String text : new String[] {"@5", "?", ""}) {
            for (int from = 0; from < 32768; from += 128) {
                SignDesk desk = new SignDesk();
                for (int i = from; i < from + 128; i++) {
                    desk.set(i, -1 - i);
                }
                Check.put(desk, text);
                Check.due("read()", desk.read(), text.equals("?") ? 1 : 0);
                for (int i = from; i < from + 128; i++) {
                    Check.due("store(" + i + ")", desk.store(i), 0);
                }
            }
            SignDesk run = Check.desk("@500\nAMD=-1");
            run.go(2);
            Check.registers("before the read", run, -1, -1, 2, 2, 2);
            Check.put(run, text);
            run.read();
            Check.blankProcessor("behind the read", run);
            Check.due("store(500)", run.store(500), 0);
        }
    }

    private static void placeOfTheLastFault() {
        Check.sentence("The place of the fault of the last read()");
        SignDesk desk = new SignDesk();
        Check.put(desk, "?");
        Check.due("read()", desk.read(), 1);
        Check.due("place()", desk.place(), 0);
        Check.put(desk, "\n(SP)");
        desk.go(1);
        desk.set(0, 1);
        Check.due("place() before the next read", desk.place(), 0);
        Check.due("read()", desk.read(), 3);
        Check.due("place()", desk.place(), 1);
        Check.due("place() again", desk.place(), 1);
        Check.put(desk, " ".repeat(1999) + "?");
        Check.due("read()", desk.read(), 1);
        Check.due("place()", desk.place(), 1999);
    }

    private static void noPlaceWithoutOne() {
        Check.sentence("-1 without one.");
        SignDesk desk = new SignDesk();
        Check.due("place() before any read", desk.place(), -1);
        Check.put(desk, "?");
        Check.due("place() before the read", desk.place(), -1);
        Check.due("read()", desk.read(), 1);
        Check.put(desk, "@1");
        Check.due("read()", desk.read(), 0);
        Check.due("place()", desk.place(), -1);
        Check.put(desk, "?");
        Check.due("read()", desk.read(), 1);
        Check.due("read() of nothing", desk.read(), 0);
        Check.due("place()", desk.place(), -1);
    }

    private static void codeFromZeroOn() {
        Check.sentence("Word i (from 0 on), 0 .. 65535");
        SignDesk desk = Check.desk("@0\n@32767\nD&A\nAMD=M+1;JMP\nAMD=D|M;JMP");
        int[] due = {0, 32767, 57344, 65023, 62847};
        for (int i = 0; i < due.length; i++) {
            Check.due("code(" + i + ")", desk.code(i), due[i]);
        }
        SignDesk full = Check.desk("@7\n" + "0\n".repeat(598) + "@9");
        Check.due("code(0)", full.code(0), 7);
        Check.due("code(1)", full.code(1), 60032);
        Check.due("code(598)", full.code(598), 60032);
        Check.due("code(599)", full.code(599), 9);
    }

    private static void codeWhereThereIsNone() {
        Check.sentence("-1 if there is none.");
        SignDesk none = new SignDesk();
        SignDesk three = Check.desk("@1\n@2\n@3");
        SignDesk full = Check.desk("0\n".repeat(600));
        for (int i : new int[] {-601, -600, -2, -1, 600, 601, 1999, 2000, 32767, 32768}) {
            Check.due("code(" + i + ") of none", none.code(i), -1);
            Check.due("code(" + i + ") of three", three.code(i), -1);
            Check.due("code(" + i + ") of 600", full.code(i), -1);
        }
        for (int i : FAR) {
            Check.due("code(" + i + ") of three", three.code(i), -1);
            Check.due("code(" + i + ") of 600", full.code(i), -1);
        }
        Check.due("code(0) of none", none.code(0), -1);
        Check.due("code(3) of three", three.code(3), -1);
        Check.put(three, "@4");
        three.read();
        Check.due("code(1) of a shorter text", three.code(1), -1);
        Check.due("code(2) of a shorter text", three.code(2), -1);
    }

    private static void goSoMany() {
        Check.sentence("So many instructions are done");
        int done = 0;
        SignDesk ring = Check.desk("(l)\nM=M+1\n@l\n0;JMP");
        for (int n : new int[] {0, 1, 2, 3, 1999, 2000, 0, 2000}) {
            Check.due("go(" + n + ")", ring.go(n), n);
            done += n;
            Check.registers("behind " + done, ring, 0, 0, done % 3, 3, done);
            Check.due("store(0)", ring.store(0), (done + 2) / 3);
        }
    }

    private static void goTillItStandsStill() {
        Check.sentence("or as many as there are till it stands still: how many");
        for (int n = 0; n <= 5; n++) {
            SignDesk desk = Check.desk("@1\n@2\n@3");
            int due = Math.min(n, 3);
            Check.due("go(" + n + ") of three", desk.go(n), due);
            Check.registers("behind go(" + n + ")", desk, due, 0, due, 3, due);
            Check.due("the rest", desk.go(2000), 3 - due);
            Check.due("and no more", desk.go(2000), 0);
            Check.due("done", desk.register(4), 3);
        }
        SignDesk full = Check.desk("0\n".repeat(600));
        Check.due("go(599)", full.go(599), 599);
        Check.due("go(2)", full.go(2), 1);
        Check.due("go(2000) without words", new SignDesk().go(2000), 0);
    }

    private static void goRefused() {
        Check.sentence("-1, refused, if n is not 0 .. 2000.");
        for (int n : new int[] {-2000, -2, -1, 2001, 2002, 4000, 65536}) {
            SignDesk ring = Check.desk("@0\n0;JMP");
            Check.due("go(" + n + ")", ring.go(n), -1);
            Check.blankProcessor("behind go(" + n + ")", ring);
            Check.due("go(" + n + ") without words", new SignDesk().go(n), -1);
        }
        for (int n : FAR) {
            SignDesk ring = Check.desk("@0\n0;JMP");
            Check.due("go(" + n + ")", ring.go(n), -1);
            Check.blankProcessor("behind go(" + n + ")", ring);
        }
        SignDesk ring = Check.desk("@0\n0;JMP");
        Check.due("go(0)", ring.go(0), 0);
        Check.due("go(2000)", ring.go(2000), 2000);
    }

    private static void setTakesSixteenBits() {
        Check.sentence("A word of the store is the lowest 16 bits of v: true");
        int[] values = {0, 1, 32766, 32767, 32768, 32769, 65534, 65535, 65536, 65537, 98303, 98304, -1, -32767, -32768, -32769,
            -65535, -65536, -65537, Integer.MAX_VALUE, Integer.MIN_VALUE};
        int[] words = {0, 1, 32766, 32767, -32768, -32767, -2, -1, 0, 1, 32767, -32768, -1, -32767, -32768, 32767,
            1, 0, -1, -1, 0};
        for (int address : new int[] {0, 1, 255, 256, 257, 16383, 16384, 32766, 32767}) {
            SignDesk desk = Check.desk("@" + address + "\nD=M");
            for (int i = 0; i < values.length; i++) {
                Check.due("set(" + address + ", " + values[i] + ")", desk.set(address, values[i]), true);
                Check.due("store(" + address + ")", desk.store(address), words[i]);
            }
            Check.due("set", desk.set(address, 40000), true);
            desk.go(2);
            Check.due("D=M", desk.register(1), 40000 - 65536);
        }
    }

    private static void setRefused() {
        Check.sentence("false if the address is not 0 .. 32767.");
        SignDesk desk = new SignDesk();
        Check.due("set(0, 1)", desk.set(0, 1), true);
        Check.due("set(32767, 1)", desk.set(32767, 1), true);
        for (int address : new int[] {-32767, -256, -2, -1, 32768, 32769, 33024}) {
            Check.due("set(" + address + ", 7)", desk.set(address, 7), false);
        }
        for (int address : FAR) {
            Check.due("set(" + address + ", 7)", desk.set(address, 7), false);
        }
        for (int address : new int[] {0, 1, 2, 254, 256, 32512, 32766, 32767}) {
            Check.due("store(" + address + ")", desk.store(address), address == 0 || address == 32767 ? 1 : 0);
        }
    }

    private static void storeHasItsRange() {
        Check.sentence("A word of the store, -32768 .. 32767");
        for (int address : new int[] {0, 32767}) {
            SignDesk desk = Check.desk("@32767\nD=A\n@" + address + "\nM=D\nM=M+1\nM=M-1");
            Check.due("store(" + address + ")", desk.store(address), 0);
            desk.go(4);
            Check.due("store(" + address + ")", desk.store(address), 32767);
            desk.go(1);
            Check.due("store(" + address + ")", desk.store(address), -32768);
            desk.go(1);
            Check.due("store(" + address + ")", desk.store(address), 32767);
        }
    }

    private static void storeOfAnother() {
        Check.sentence("100000 for another address.");
        SignDesk desk = new SignDesk();
        for (int address : new int[] {-32767, -2, -1, 32768, 32769}) {
            Check.due("store(" + address + ")", desk.store(address), 100000);
        }
        for (int address : FAR) {
            Check.due("store(" + address + ")", desk.store(address), 100000);
        }
        Check.due("store(0)", desk.store(0), 0);
        Check.due("store(32767)", desk.store(32767), 0);
    }
}
