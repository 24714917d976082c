import java.util.Arrays;

/**
 * Words of a processor of sixteen bits that knows two instructions, written with signs, with labels
 * and names for places; and that processor, with a store of its own.
 */
public final class SignDesk {
    private static final int REFUSED = -1;
    private static final int NO_SUCH = 100000;
    private static final int MOST_STEPS = 2000;
    /** What a word has more if its comp is of M. */
    private static final int OF_M = 4096;

    private final Text text;
    private final Program program;
    private final Reader reader;
    private final Processor processor;

    public SignDesk() {
        text = new Text();
        program = new Program();
        reader = new Reader(text, program);
        processor = new Processor(program);
    }

    public boolean put(long v, int n) {
        return text.append(v, n);
    }

    public int read() {
        int fault = reader.assemble();
        text.clear();
        processor.clear();
        return fault;
    }

    public int place() {
        return reader.faultPlace();
    }

    public int code(int i) {
        return program.wordAt(i);
    }

    public int go(int n) {
        if (n < 0 || n > MOST_STEPS) {
            return REFUSED;
        }
        return processor.run(n);
    }

    public boolean set(int address, int v) {
        if (!Memory.holds(address)) {
            return false;
        }
        processor.memory().write(address, v);
        return true;
    }

    public int store(int address) {
        return Memory.holds(address) ? processor.memory().wordAt(address) : NO_SUCH;
    }

    public int register(int what) {
        switch (what) {
            case 0:
                return processor.a();
            case 1:
                return processor.d();
            case 2:
                return processor.next();
            case 3:
                return program.size();
            case 4:
                return processor.done();
            case 5:
                return reader.symbolCount();
            case 6:
                return text.size();
            default:
                return NO_SUCH;
        }
    }

    /** The bytes that wait to be read, and what can be told of a stretch of them. */
    private static final class Text {
        private static final int MOST_BYTES = 2000;
        private static final int MOST_BYTES_AT_ONCE = 8;
        private static final int LONGEST_SYMBOL = 16;
        private static final int MOST_DIGITS = 5;
        private static final int HIGHEST_NUMBER = 32767;
        private static final int LINE_END = 10;

        private final byte[] bytes = new byte[MOST_BYTES];
        private int size;

        boolean append(long v, int n) {
            if (n < 1 || n > MOST_BYTES_AT_ONCE || n > MOST_BYTES - size) {
                return false;
            }
            for (int i = 0; i < n; i++) {
                bytes[size + i] = (byte) (v >>> (8 * (n - 1 - i)));
            }
            size += n;
            return true;
        }

        void clear() {
            size = 0;
        }

        int size() {
            return size;
        }

        /** The text's end ends a line as a 10 does, so beyond it all bytes are a line's end. */
        int byteAt(int i) {
            return i >= 0 && i < size ? bytes[i] & 255 : LINE_END;
        }

        boolean isLineEnd(int i) {
            return byteAt(i) == LINE_END;
        }

        boolean isBlank(int i) {
            int c = byteAt(i);
            return c == 9 || c == 13 || c == 32;
        }

        boolean isComment(int i) {
            return byteAt(i) == '/' && byteAt(i + 1) == '/';
        }

        int endOfLine(int from) {
            for (int i = from; i < size; i++) {
                if (isLineEnd(i)) {
                    return i;
                }
            }
            return size;
        }

        int endOfInstruction(int from) {
            for (int i = from; i < size; i++) {
                if (isLineEnd(i) || isBlank(i) || isComment(i)) {
                    return i;
                }
            }
            return size;
        }

        /** Where the sign stands first; -1 if it does not. */
        int find(char sign, int from, int to) {
            for (int i = from; i < to; i++) {
                if (byteAt(i) == sign) {
                    return i;
                }
            }
            return -1;
        }

        boolean isSymbol(int from, int to) {
            if (to - from < 1 || to - from > LONGEST_SYMBOL || isDigit(byteAt(from))) {
                return false;
            }
            for (int i = from; i < to; i++) {
                if (!isSymbolSign(byteAt(i))) {
                    return false;
                }
            }
            return true;
        }

        /** The number that is written there; -1 if it is none that may stand behind an @. */
        int number(int from, int to) {
            if (to - from < 1 || to - from > MOST_DIGITS) {
                return -1;
            }
            int number = 0;
            for (int i = from; i < to; i++) {
                if (!isDigit(byteAt(i))) {
                    return -1;
                }
                number = 10 * number + byteAt(i) - '0';
            }
            return number <= HIGHEST_NUMBER ? number : -1;
        }

        /** Which of the names, with one blank between any two, is written there; -1 if none is. */
        int nameAmong(String names, int from, int to) {
            int name = 0;
            int start = 0;
            boolean isSpelled = true;
            for (int i = 0; i <= names.length(); i++) {
                if (i == names.length() || names.charAt(i) == ' ') {
                    if (isSpelled && i - start == to - from) {
                        return name;
                    }
                    name++;
                    start = i + 1;
                    isSpelled = true;
                } else if (names.charAt(i) != byteAt(from + i - start)) {
                    isSpelled = false;
                }
            }
            return -1;
        }

        boolean isSame(int from, int other, int length) {
            for (int i = 0; i < length; i++) {
                if (byteAt(from + i) != byteAt(other + i)) {
                    return false;
                }
            }
            return true;
        }

        private static boolean isDigit(int c) {
            return c >= '0' && c <= '9';
        }

        private static boolean isSymbolSign(int c) {
            return c >= 'A' && c <= 'Z' || c >= 'a' && c <= 'z' || isDigit(c)
                || c == '_' || c == '.' || c == '$' || c == ':';
        }
    }

    /** The words that a text has become. */
    private static final class Program {
        private static final int MOST_WORDS = 600;

        private final int[] words = new int[MOST_WORDS];
        private int size;

        boolean isFull() {
            return size >= MOST_WORDS;
        }

        void add(int word) {
            if (!isFull()) {
                words[size] = word;
                size++;
            }
        }

        void change(int i, int word) {
            if (i >= 0 && i < size) {
                words[i] = word;
            }
        }

        void clear() {
            size = 0;
        }

        int size() {
            return size;
        }

        int wordAt(int i) {
            return i >= 0 && i < size ? words[i] : -1;
        }
    }

    /** A text's own symbols; their names stay in the text, which stands still while it is read. */
    private static final class Symbols {
        private static final int MOST_SYMBOLS = 40;
        private static final int UNTOLD = -1;

        private final Text text;
        private final int[] starts = new int[MOST_SYMBOLS];
        private final int[] lengths = new int[MOST_SYMBOLS];
        private final int[] numbers = new int[MOST_SYMBOLS];
        private int count;

        Symbols(Text text) {
            this.text = text;
        }

        /** The symbol that is written there, a new one too; -1 if it would be one too many. */
        int symbolOf(int from, int to) {
            for (int i = 0; i < count; i++) {
                if (lengths[i] == to - from && text.isSame(starts[i], from, to - from)) {
                    return i;
                }
            }
            if (count >= MOST_SYMBOLS) {
                return -1;
            }
            starts[count] = from;
            lengths[count] = to - from;
            numbers[count] = UNTOLD;
            count++;
            return count - 1;
        }

        /** Gives the symbol its number; false if it has one. */
        boolean tell(int symbol, int number) {
            if (symbol < 0 || symbol >= count || numbers[symbol] != UNTOLD) {
                return false;
            }
            numbers[symbol] = number;
            return true;
        }

        int numberOf(int symbol) {
            return symbol >= 0 && symbol < count ? numbers[symbol] : UNTOLD;
        }

        void clear() {
            count = 0;
        }

        int count() {
            return count;
        }
    }

    /** Makes the text into words, or finds its first fault. */
    private static final class Reader {
        private static final int NO_FAULT = 0;
        private static final int NO_INSTRUCTION = 1;
        private static final int TOO_MANY = 2;
        private static final int LABEL_TAKEN = 3;
        private static final int NOWHERE = -1;

        private static final int FIRST_FREE_PLACE = 16;
        /** No word is as high: this and more stands for a symbol whose number is told later. */
        private static final int LATER = 65536;

        private static final int OTHERS = 57344;
        private static final int COMP = 64;
        private static final int DEST = 8;

        /** In the order of their bits: the first is 1, the last is 7. */
        private static final String DESTS = "M D MD A AM AD AMD";
        private static final String JUMPS = "JGT JEQ JGE JLT JNE JLE JMP";

        private static final String COMPS_OF_A =
            "0 1 -1 D A !D !A -D -A D+1 A+1 D-1 A-1 D+A D-A A-D D&A D|A";
        private static final int[] BITS_OF_A =
            {42, 63, 58, 12, 48, 13, 49, 15, 51, 31, 55, 14, 50, 2, 19, 7, 0, 21};
        private static final String COMPS_OF_M = "M !M -M M+1 M-1 D+M D-M M-D D&M D|M";
        private static final int[] BITS_OF_M = {48, 49, 51, 55, 50, 2, 19, 7, 0, 21};

        private static final String KNOWN =
            "R0 R1 R2 R3 R4 R5 R6 R7 R8 R9 R10 R11 R12 R13 R14 R15 SP LCL ARG THIS THAT SCREEN KBD";
        private static final int[] KNOWN_NUMBERS =
            {0, 1, 2, 3, 4, 5, 6, 7, 8, 9, 10, 11, 12, 13, 14, 15, 0, 1, 2, 3, 4, 16384, 24576};

        private final Text text;
        private final Program program;
        private final Symbols symbols;
        private int faultPlace = NOWHERE;

        Reader(Text text, Program program) {
            this.text = text;
            this.program = program;
            this.symbols = new Symbols(text);
        }

        int faultPlace() {
            return faultPlace;
        }

        int symbolCount() {
            return symbols.count();
        }

        int assemble() {
            forget();
            faultPlace = NOWHERE;
            int fault = NO_FAULT;
            boolean lineHasOne = false;
            int behind = 0;
            for (int i = 0; i < text.size() && fault == NO_FAULT; i++) {
                if (i < behind || text.isBlank(i)) {
                    continue;
                }
                if (text.isLineEnd(i)) {
                    lineHasOne = false;
                } else if (text.isComment(i)) {
                    behind = text.endOfLine(i);
                } else {
                    behind = text.endOfInstruction(i);
                    fault = lineHasOne ? NO_INSTRUCTION : take(i, behind);
                    faultPlace = fault == NO_FAULT ? NOWHERE : i;
                    lineHasOne = true;
                }
            }
            if (fault == NO_FAULT) {
                fillInSymbols();
            } else {
                forget();
            }
            return fault;
        }

        private void forget() {
            program.clear();
            symbols.clear();
        }

        private int take(int from, int to) {
            int first = text.byteAt(from);
            if (first == '@') {
                return takeAddress(from + 1, to);
            }
            if (first == '(') {
                return takeLabel(from + 1, to - 1);
            }
            return takeOther(from, to);
        }

        private int takeAddress(int from, int to) {
            boolean isSymbol = text.isSymbol(from, to);
            int number = isSymbol ? knownNumber(from, to) : text.number(from, to);
            if (!isSymbol && number < 0) {
                return NO_INSTRUCTION;
            }
            if (program.isFull()) {
                return TOO_MANY;
            }
            if (number < 0) {
                int symbol = symbols.symbolOf(from, to);
                if (symbol < 0) {
                    return TOO_MANY;
                }
                number = LATER + symbol;
            }
            program.add(number);
            return NO_FAULT;
        }

        private int takeLabel(int from, int to) {
            if (!text.isSymbol(from, to) || text.byteAt(to) != ')') {
                return NO_INSTRUCTION;
            }
            if (knownNumber(from, to) >= 0) {
                return LABEL_TAKEN;
            }
            int symbol = symbols.symbolOf(from, to);
            if (symbol < 0) {
                return TOO_MANY;
            }
            return symbols.tell(symbol, program.size()) ? NO_FAULT : LABEL_TAKEN;
        }

        private int takeOther(int from, int to) {
            int equalSign = text.find('=', from, to);
            int semicolon = text.find(';', from, to);
            int dest = equalSign < 0 ? 0 : 1 + text.nameAmong(DESTS, from, equalSign);
            int jump = semicolon < 0 ? 0 : 1 + text.nameAmong(JUMPS, semicolon + 1, to);
            int comp = compBits(equalSign < 0 ? from : equalSign + 1, semicolon < 0 ? to : semicolon);
            boolean destIsWrong = equalSign >= 0 && dest == 0;
            boolean jumpIsWrong = semicolon >= 0 && jump == 0;
            if (destIsWrong || jumpIsWrong || comp < 0) {
                return NO_INSTRUCTION;
            }
            if (program.isFull()) {
                return TOO_MANY;
            }
            program.add(OTHERS + comp + DEST * dest + jump);
            return NO_FAULT;
        }

        /** What a comp adds to its word; -1 if it is none. */
        private int compBits(int from, int to) {
            int bits = numberIn(BITS_OF_A, text.nameAmong(COMPS_OF_A, from, to));
            if (bits >= 0) {
                return COMP * bits;
            }
            bits = numberIn(BITS_OF_M, text.nameAmong(COMPS_OF_M, from, to));
            return bits >= 0 ? OF_M + COMP * bits : -1;
        }

        private int knownNumber(int from, int to) {
            return numberIn(KNOWN_NUMBERS, text.nameAmong(KNOWN, from, to));
        }

        private static int numberIn(int[] row, int i) {
            return i >= 0 && i < row.length ? row[i] : -1;
        }

        /** Only the whole text tells which symbols are labels, so the others get places last. */
        private void fillInSymbols() {
            int freePlace = FIRST_FREE_PLACE;
            for (int i = 0; i < program.size(); i++) {
                int symbol = program.wordAt(i) - LATER;
                if (symbol >= 0) {
                    if (symbols.tell(symbol, freePlace)) {
                        freePlace++;
                    }
                    program.change(i, symbols.numberOf(symbol));
                }
            }
        }
    }

    /** A stretch of the store that has been written to. */
    private static final class Page {
        private static final int WORDS = 256;

        private final int[] words = new int[WORDS];
    }

    /** The store: pages come with their first write, since most objects touch few of them. */
    private static final class Memory {
        private static final int WORDS = 32768;
        private static final int PAGES = WORDS / Page.WORDS;

        private final Page[] pages = new Page[PAGES];

        static boolean holds(int address) {
            return address >= 0 && address < WORDS;
        }

        int wordAt(int address) {
            if (!holds(address)) {
                return 0;
            }
            Page page = pages[address / Page.WORDS];
            return page == null ? 0 : page.words[address % Page.WORDS];
        }

        void write(int address, int v) {
            if (!holds(address)) {
                return;
            }
            int number = address / Page.WORDS;
            Page page = pages[number];
            if (page == null) {
                page = new Page();
                pages[number] = page;
            }
            page.words[address % Page.WORDS] = (short) v;
        }

        void clear() {
            for (int i = 0; i < PAGES; i++) {
                Page page = pages[i];
                if (page != null) {
                    Arrays.fill(page.words, 0);
                }
            }
        }
    }

    /** Does the program's words; A, D and what it computes are kept as signed numbers. */
    private static final class Processor {
        private static final int LOWEST_15_BITS = 32767;
        private static final int TO_A = 32;
        private static final int TO_D = 16;
        private static final int TO_M = 8;
        private static final int IF_ABOVE = 1;
        private static final int IF_ZERO = 2;
        private static final int IF_BELOW = 4;

        private final Program program;
        private final Memory memory;
        private int a;
        private int d;
        private int next;
        private int done;

        Processor(Program program) {
            this.program = program;
            this.memory = new Memory();
        }

        void clear() {
            memory.clear();
            a = 0;
            d = 0;
            next = 0;
            done = 0;
        }

        Memory memory() {
            return memory;
        }

        int a() {
            return a;
        }

        int d() {
            return d;
        }

        int next() {
            return next;
        }

        int done() {
            return done;
        }

        /** How many of n instructions were done before it stood still. */
        int run(int n) {
            for (int i = 0; i < n; i++) {
                int word = program.wordAt(next);
                if (word < 0) {
                    return i;
                }
                perform(word);
                done++;
            }
            return n;
        }

        private void perform(int word) {
            if (word <= LOWEST_15_BITS) {
                a = word;
                next++;
                return;
            }
            int address = a & LOWEST_15_BITS;
            int y = (word & OF_M) != 0 ? memory.wordAt(address) : a;
            int result = compute(word >> 6, d, y);
            if ((word & TO_M) != 0) {
                memory.write(address, result);
            }
            if ((word & TO_A) != 0) {
                a = result;
            }
            if ((word & TO_D) != 0) {
                d = result;
            }
            int sign = result > 0 ? IF_ABOVE : result == 0 ? IF_ZERO : IF_BELOW;
            next = (word & sign) != 0 ? address : next + 1;
        }

        // A comp's six bits are the steps that lead to it: x to 0, x to !x, y to 0, y to !y,
        // + in the place of &, the result to its !; so they need no table here.
        private static int compute(int bits, int x, int y) {
            int left = (bits & 32) != 0 ? 0 : x;
            left = (bits & 16) != 0 ? ~left : left;
            int right = (bits & 8) != 0 ? 0 : y;
            right = (bits & 4) != 0 ? ~right : right;
            int result = (bits & 2) != 0 ? left + right : left & right;
            return (short) ((bits & 1) != 0 ? ~result : result);
        }
    }
}
