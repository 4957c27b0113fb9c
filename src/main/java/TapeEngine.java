/**
 * An engine of about 1950: one store, a long accumulator, a tape, a loader with control
 * combinations and a printer with two shifts. ../shared/DOC.md says what each call does.
 */
public final class TapeEngine {
    public static final int NONE = -1, UNKNOWN = -2, OUTSIDE = -3, NOT = -4, FULL = -5;

    private static final int ADDRESSES = 256;
    private static final int SYMBOL_KINDS = 32;
    private static final int MOST_SYMBOLS = 1000;
    private static final int MOST_SYMBOLS_A_PUNCH = 12;
    private static final int MOST_BYTES = 400;
    private static final int MOST_ORDERS_A_RUN = 3000;
    private static final int MOST_MARKS = 8;
    private static final int MOST_BACK = 100;

    private static final int SHORT_MASK = (1 << 17) - 1;
    private static final long LONG_MASK = (1L << 35) - 1;
    private static final long REST_MASK = (1L << 36) - 1;
    private static final long TOP_LIMIT = 1L << 34;
    private static final long LEAST_LONG = 1L << 63;

    // The FUNCTIONS; behind each its letter.
    private static final int ADD = 28;                // A
    private static final int SUBTRACT = 12;           // S
    private static final int HOLD_MULTIPLIER = 21;    // H
    private static final int ADD_PRODUCT = 31;        // V
    private static final int SUBTRACT_PRODUCT = 22;   // N
    private static final int TRANSFER = 5;            // T
    private static final int TRANSFER_A_COPY = 7;     // U
    private static final int COLLATE = 30;            // C
    private static final int SHIFT_RIGHT = 4;         // R
    private static final int SHIFT_LEFT = 25;         // L
    private static final int GO_IF_NOT_NEGATIVE = 3;  // E
    private static final int GO_IF_NEGATIVE = 27;     // G
    private static final int INPUT = 8;               // I
    private static final int OUTPUT = 9;              // O
    private static final int FETCH_PRINTED = 17;      // F
    private static final int PASS = 26;               // X
    private static final int ROUND = 6;               // Y
    private static final int STOP = 13;               // Z

    // How a run ends.
    private static final int RUN_BY_NUMBER = 0;
    private static final int RUN_BY_STOP = 1;
    private static final int RUN_BY_ILLEGAL = 2;
    private static final int RUN_BY_EMPTY = 3;
    private static final int RUN_BY_FULL = 4;
    private static final int RUN_BY_MARK = 5;

    private final Machine machine = new Machine();
    private final Machine kept = new Machine();
    private final Trail trail = new Trail();
    private final Loader loader = new Loader();
    private final Marks marks = new Marks();
    private final Flow flow = new Flow();
    private boolean hasKept = false;
    private int runEnd = NONE;

    public TapeEngine() {
    }

    // ---- the store

    public int store(int n, int v) {
        if (!isAddress(n)) {
            return UNKNOWN;
        }
        if (v < 0 || v > SHORT_MASK) {
            return OUTSIDE;
        }
        machine.memory.layShort(n, v);
        trail.forget();
        return 1;
    }

    public int storeLong(int n, long v) {
        if (!isAddress(n)) {
            return UNKNOWN;
        }
        if (v < 0 || v > LONG_MASK) {
            return OUTSIDE;
        }
        machine.memory.layLong(n, v);
        trail.forget();
        return 1;
    }

    public int word(int n) {
        return isAddress(n) ? machine.memory.shortAt(n) : UNKNOWN;
    }

    public long wordLong(int n) {
        return isAddress(n) ? signedLong(machine.memory.longAt(n)) : LEAST_LONG;
    }

    public int order(int n, int f, int a, boolean isLong) {
        if (!isAddress(n) || !isSymbol(f)) {
            return UNKNOWN;
        }
        if (a < 0 || a > 1023) {
            return OUTSIDE;
        }
        machine.memory.layShort(n, (f << 12) | (a << 1) | (isLong ? 1 : 0));
        trail.forget();
        return 1;
    }

    public long top() {
        return machine.ac.high;
    }

    public long rest() {
        return machine.ac.low;
    }

    public int set(long top, long rest) {
        if (top < -TOP_LIMIT || top >= TOP_LIMIT || rest < 0 || rest > REST_MASK) {
            return OUTSIDE;
        }
        machine.ac.become(top, rest);
        trail.forget();
        return 1;
    }

    public long multiplier() {
        return machine.mult;
    }

    // ---- tape and text

    public int punch(long v, int n) {
        if (n < 1 || n > MOST_SYMBOLS_A_PUNCH) {
            return OUTSIDE;
        }
        if (machine.tape.length + n > MOST_SYMBOLS) {
            return FULL;
        }
        for (int i = n - 1; i >= 0; i--) {
            machine.tape.append((int) (v >> (5 * i)) & 31);
        }
        trail.forget();
        return machine.tape.length;
    }

    public int rewind() {
        int taken = machine.tape.place;
        machine.tape.place = 0;
        trail.forget();
        return taken;
    }

    public int text(int i) {
        return i >= 0 && i < machine.printer.length ? machine.printer.byteAt(i) : UNKNOWN;
    }

    public int tear() {
        int bytes = machine.printer.length;
        machine.printer.length = 0;
        trail.forget();
        return bytes;
    }

    // ---- loading, running

    public int load() {
        trail.forget();
        return loader.takeTape(machine);
    }

    public int loaded() {
        return loader.end;
    }

    public int start(int n) {
        if (!isAddress(n)) {
            return UNKNOWN;
        }
        machine.next = n;
        trail.forget();
        return 1;
    }

    public int run(int most) {
        if (most < 0 || most > MOST_ORDERS_A_RUN) {
            return OUTSIDE;
        }
        runEnd = RUN_BY_NUMBER;
        int orders = 0;
        while (orders < most && runEnd == RUN_BY_NUMBER) {
            runEnd = orders > 0 && marks.isAt(machine.next) ? RUN_BY_MARK : machine.haltAhead();
            if (runEnd == RUN_BY_NUMBER) {
                trail.note(machine);
                runEnd = machine.doNext();
                orders++;
            }
        }
        return orders;
    }

    public int why() {
        return runEnd;
    }

    public int mark(int n, boolean on) {
        if (!isAddress(n)) {
            return UNKNOWN;
        }
        boolean was = marks.isAt(n);
        if (on && !was && marks.size >= MOST_MARKS) {
            return FULL;
        }
        marks.put(n, on);
        return was ? 1 : 0;
    }

    public int back() {
        if (trail.size == 0) {
            return NOT;
        }
        trail.takeBack(machine);
        return trail.size;
    }

    public int done(int f) {
        return isSymbol(f) ? machine.timesDone[f] : UNKNOWN;
    }

    // ---- what may be come to

    public int reach(int n) {
        return isAddress(n) ? flow.follow(machine.memory, n) : UNKNOWN;
    }

    public int reached(int i) {
        if (!isAddress(i)) {
            return UNKNOWN;
        }
        return flow.isComeTo(i) ? 1 : 0;
    }

    public int alters() {
        return flow.leastThatAlters(machine.memory);
    }

    // ---- images

    public int image() {
        kept.copyFrom(machine);
        hasKept = true;
        return 1;
    }

    public int recall() {
        if (!hasKept) {
            return NOT;
        }
        machine.copyFrom(kept);
        trail.forget();
        return 1;
    }

    public int count(int what) {
        switch (what) {
            case 0:
                return machine.next;
            case 1:
                return machine.tape.length;
            case 2:
                return machine.tape.place;
            case 3:
                return machine.printer.length;
            case 4:
                return machine.printer.figures ? 1 : 0;
            case 5:
                return machine.printer.last;
            case 6:
                return marks.size;
            case 7:
                return trail.size;
            case 8:
                return loader.place;
            default:
                return OUTSIDE;
        }
    }

    private static boolean isAddress(int n) {
        return n >= 0 && n < ADDRESSES;
    }

    private static boolean isSymbol(int f) {
        return f >= 0 && f < SYMBOL_KINDS;
    }

    private static int behind(int n) {
        return (n + 1) & (ADDRESSES - 1);
    }

    private static int functionOf(int order) {
        return (order >> 12) & (SYMBOL_KINDS - 1);
    }

    private static int addressOf(int order) {
        return (order >> 1) & (ADDRESSES - 1);
    }

    private static boolean isLongOrder(int order) {
        return (order & 1) == 1;
    }

    private static long signedLong(long bits) {
        return (bits << 29) >> 29;
    }

    private static boolean isLegal(int function) {
        switch (function) {
            case ADD:
            case SUBTRACT:
            case HOLD_MULTIPLIER:
            case ADD_PRODUCT:
            case SUBTRACT_PRODUCT:
            case TRANSFER:
            case TRANSFER_A_COPY:
            case COLLATE:
            case SHIFT_RIGHT:
            case SHIFT_LEFT:
            case GO_IF_NOT_NEGATIVE:
            case GO_IF_NEGATIVE:
            case INPUT:
            case OUTPUT:
            case FETCH_PRINTED:
            case PASS:
            case ROUND:
            case STOP:
                return true;
            default:
                return false;
        }
    }

    /** THE STORE: 256 SHORT words and the MIDDLE bits of the 128 LONG ones. */
    private static final class Memory {
        private final int[] shorts = new int[ADDRESSES];
        private final int[] middles = new int[ADDRESSES / 2];

        int shortAt(int n) {
            return shorts[n & (ADDRESSES - 1)];
        }

        void layShort(int n, int bits) {
            shorts[n & (ADDRESSES - 1)] = bits & SHORT_MASK;
        }

        /** The 35 bits of the LONG word at n, without sign. */
        long longAt(int n) {
            long high = shortAt(n | 1);
            long middle = middles[(n & (ADDRESSES - 1)) >> 1];
            return (high << 18) | (middle << 17) | shortAt(n & ~1);
        }

        void layLong(int n, long bits) {
            layShort(n | 1, (int) (bits >> 18));
            middles[(n & (ADDRESSES - 1)) >> 1] = (int) (bits >> 17) & 1;
            layShort(n & ~1, (int) bits);
        }

        void copyFrom(Memory other) {
            System.arraycopy(other.shorts, 0, shorts, 0, ADDRESSES);
            System.arraycopy(other.middles, 0, middles, 0, ADDRESSES / 2);
        }
    }

    /** AC: its highest 35 bits with their sign, its lowest 36 without. */
    private static final class Accumulator {
        private long high = 0;
        private long low = 0;

        void become(long newHigh, long newLow) {
            high = newHigh;
            low = newLow;
        }

        /** AC and moreHigh 2^36 + moreLow; moreLow lies between -2^36 and 2^36. */
        void plus(long moreHigh, long moreLow) {
            long sum = low + moreLow;
            high = signedLong(high + moreHigh + (sum >> 36));
            low = sum & REST_MASK;
        }

        /** AC and sign 4 a b, for a and b of 35 bits, sign 1 or -1. */
        void plusProduct(long a, long b, int sign) {
            // The product has 71 bits, so b goes in two parts that each fit a long.
            long upper = a * (b >> 18);
            long lower = 4 * a * (b & ((1L << 18) - 1));
            plus(sign * (upper >> 16), sign * ((upper & 0xFFFF) << 20));
            plus(sign * (lower >> 36), sign * (lower & REST_MASK));
        }

        void shiftRight(int p) {
            long fallen = high & ((1L << p) - 1);
            become(high >> p, (low >> p) | (fallen << (36 - p)));
        }

        void shiftLeft(int p) {
            become(signedLong((high << p) | (low >> (36 - p))), (low << p) & REST_MASK);
        }
    }

    /** THE TAPE: its SYMBOLS, and how many of them are taken. */
    private static final class Tape {
        private final byte[] symbols = new byte[MOST_SYMBOLS];
        private int length = 0;
        private int place = 0;

        void append(int symbol) {
            if (length >= 0 && length < MOST_SYMBOLS) {
                symbols[length] = (byte) symbol;
                length++;
            }
        }

        boolean isAtEnd() {
            return place >= length;
        }

        /** The next SYMBOL, or NONE where THE TAPE ends. */
        int take() {
            if (isAtEnd() || place < 0 || place >= MOST_SYMBOLS) {
                return NONE;
            }
            int symbol = symbols[place];
            place++;
            return symbol;
        }

        void copyFrom(Tape other) {
            System.arraycopy(other.symbols, 0, symbols, 0, MOST_SYMBOLS);
            length = other.length;
            place = other.place;
        }
    }

    /** The printer with its two shifts, and THE TEXT. */
    private static final class Printer {
        private static final String LETTERS = "PQWERTYUIOJ#SZK*.F@D!HNM&LXGABCV";
        // By SYMBOL as LETTERS is; the six that write no sign stand for themselves.
        private static final String FIGURES = "0123456789'#\"+(*.$@;!%,.&)/<-?:=";
        private static final int SETS_LETTERS = 15;   // *
        private static final int SETS_FIGURES = 11;   // #
        private static final int DOES_NOTHING = 16;   // .
        private static final int WRITES_13 = 18;      // @
        private static final int WRITES_10 = 24;      // &
        private static final int WRITES_32 = 20;      // !

        private final byte[] bytes = new byte[MOST_BYTES];
        private int length = 0;
        private boolean figures = false;
        private int last = NONE;

        boolean isFull() {
            return length >= MOST_BYTES;
        }

        int byteAt(int i) {
            return i >= 0 && i < MOST_BYTES ? bytes[i] : UNKNOWN;
        }

        void print(int symbol) {
            if (symbol < 0 || symbol >= SYMBOL_KINDS) {
                return;
            }
            last = symbol;
            switch (symbol) {
                case SETS_LETTERS:
                    figures = false;
                    break;
                case SETS_FIGURES:
                    figures = true;
                    break;
                case DOES_NOTHING:
                    break;
                case WRITES_13:
                    write(13);
                    break;
                case WRITES_10:
                    write(10);
                    break;
                case WRITES_32:
                    write(32);
                    break;
                default:
                    write(figures ? FIGURES.charAt(symbol) : LETTERS.charAt(symbol));
                    break;
            }
        }

        private void write(int sign) {
            if (length >= 0 && length < MOST_BYTES) {
                bytes[length] = (byte) sign;
                length++;
            }
        }

        void copyFrom(Printer other) {
            System.arraycopy(other.bytes, 0, bytes, 0, MOST_BYTES);
            length = other.length;
            figures = other.figures;
            last = other.last;
        }
    }

    /** All that image() keeps, and how one ORDER is done with it. */
    private static final class Machine {
        private final Memory memory = new Memory();
        private final Accumulator ac = new Accumulator();
        private final Tape tape = new Tape();
        private final Printer printer = new Printer();
        private final int[] timesDone = new int[SYMBOL_KINDS];
        private long mult = 0;
        private int next = 0;

        int orderAhead() {
            return memory.shortAt(next);
        }

        /** How the engine halts ahead of the next ORDER; RUN_BY_NUMBER if it does not. */
        int haltAhead() {
            int function = functionOf(orderAhead());
            if (!isLegal(function)) {
                return RUN_BY_ILLEGAL;
            }
            if (function == INPUT && tape.isAtEnd()) {
                return RUN_BY_EMPTY;
            }
            if (function == OUTPUT && printer.isFull()) {
                return RUN_BY_FULL;
            }
            return RUN_BY_NUMBER;
        }

        /** Does the next ORDER: RUN_BY_STOP if the engine halts behind it, else RUN_BY_NUMBER. */
        int doNext() {
            int order = orderAhead();
            int function = functionOf(order);
            next = behind(next);
            switch (function) {
                case GO_IF_NOT_NEGATIVE:
                    next = ac.high >= 0 ? addressOf(order) : next;
                    break;
                case GO_IF_NEGATIVE:
                    next = ac.high < 0 ? addressOf(order) : next;
                    break;
                case TRANSFER:
                    layHighest(order);
                    ac.become(0, 0);
                    break;
                case TRANSFER_A_COPY:
                    layHighest(order);
                    break;
                case INPUT:
                    layWord(order, tape.take());
                    break;
                case OUTPUT:
                    printer.print(functionOf(memory.shortAt(highAddress(order))));
                    break;
                case FETCH_PRINTED:
                    layPrinted(highAddress(order));
                    break;
                default:
                    reckon(order);
                    break;
            }
            timesDone[function]++;
            return function == STOP ? RUN_BY_STOP : RUN_BY_NUMBER;
        }

        /** Does an ORDER that changes AC or MULT alone, or nothing. */
        private void reckon(int order) {
            switch (functionOf(order)) {
                case ADD:
                    ac.plus(operand(order), 0);
                    break;
                case SUBTRACT:
                    ac.plus(-operand(order), 0);
                    break;
                case HOLD_MULTIPLIER:
                    mult = operand(order);
                    break;
                case ADD_PRODUCT:
                    ac.plusProduct(mult, operand(order), 1);
                    break;
                case SUBTRACT_PRODUCT:
                    ac.plusProduct(mult, operand(order), -1);
                    break;
                case COLLATE:
                    ac.plus(mult & operand(order), 0);
                    break;
                case SHIFT_RIGHT:
                    ac.shiftRight(shiftOf(order));
                    break;
                case SHIFT_LEFT:
                    ac.shiftLeft(shiftOf(order));
                    break;
                case ROUND:
                    ac.plus(0, 1L << 35);
                    break;
                default:
                    break;
            }
        }

        /** C as 35 bits, with its sign. */
        private long operand(int order) {
            int n = addressOf(order);
            return signedLong(isLongOrder(order) ? memory.longAt(n) : (long) memory.shortAt(n) << 18);
        }

        /** The address of the SHORT word that holds the highest bits of C. */
        private int highAddress(int order) {
            return isLongOrder(order) ? addressOf(order) | 1 : addressOf(order);
        }

        private int shiftOf(int order) {
            // All 17 bits count, those of the FUNCTION too: with none below them p is theirs.
            int place = 0;
            while (place < 16 && ((order >> place) & 1) == 0) {
                place++;
            }
            return place + 1;
        }

        private void layWord(int order, long bits) {
            if (isLongOrder(order)) {
                memory.layLong(addressOf(order), bits);
            } else {
                memory.layShort(addressOf(order), (int) bits);
            }
        }

        private void layHighest(int order) {
            layWord(order, isLongOrder(order) ? ac.high & LONG_MASK : ac.high >> 18);
        }

        private void layPrinted(int n) {
            int symbol = printer.last == NONE ? 0 : printer.last;
            memory.layShort(n, (symbol << 12) | (memory.shortAt(n) & 4095));
        }

        void copyFrom(Machine other) {
            memory.copyFrom(other.memory);
            ac.become(other.ac.high, other.ac.low);
            tape.copyFrom(other.tape);
            printer.copyFrom(other.printer);
            System.arraycopy(other.timesDone, 0, timesDone, 0, SYMBOL_KINDS);
            mult = other.mult;
            next = other.next;
        }
    }

    /** What the latest 100 ORDERS found, so that they can be taken back. */
    private static final class Trail {
        private final int[] addresses = new int[MOST_BACK];
        private final int[] orders = new int[MOST_BACK];
        private final long[] pairs = new long[MOST_BACK];
        private final long[] highs = new long[MOST_BACK];
        private final long[] lows = new long[MOST_BACK];
        private final long[] mults = new long[MOST_BACK];
        private final int[] tapePlaces = new int[MOST_BACK];
        private final int[] textLengths = new int[MOST_BACK];
        private final boolean[] shifts = new boolean[MOST_BACK];
        private final int[] lasts = new int[MOST_BACK];
        private int newest = 0;
        private int size = 0;

        void forget() {
            size = 0;
        }

        /** Notes the machine as it is ahead of its next ORDER. */
        void note(Machine machine) {
            newest = newest >= 0 && newest + 1 < MOST_BACK ? newest + 1 : 0;
            size = Math.min(size + 1, MOST_BACK);
            int order = machine.orderAhead();
            addresses[newest] = machine.next;
            orders[newest] = order;
            // No ORDER writes outside the LONG word at its ADDRESS.
            pairs[newest] = machine.memory.longAt(addressOf(order));
            highs[newest] = machine.ac.high;
            lows[newest] = machine.ac.low;
            mults[newest] = machine.mult;
            tapePlaces[newest] = machine.tape.place;
            // THE TEXT only grows while ORDERS are noted, so its length is enough.
            textLengths[newest] = machine.printer.length;
            shifts[newest] = machine.printer.figures;
            lasts[newest] = machine.printer.last;
        }

        void takeBack(Machine machine) {
            if (size <= 0 || newest < 0 || newest >= MOST_BACK) {
                return;
            }
            int order = orders[newest];
            machine.next = addresses[newest];
            machine.memory.layLong(addressOf(order), pairs[newest]);
            machine.ac.become(highs[newest], lows[newest]);
            machine.mult = mults[newest];
            machine.tape.place = tapePlaces[newest];
            machine.printer.length = textLengths[newest];
            machine.printer.figures = shifts[newest];
            machine.printer.last = lasts[newest];
            machine.timesDone[functionOf(order)]--;
            newest = newest > 0 ? newest - 1 : MOST_BACK - 1;
            size--;
        }
    }

    /** THE LOADER, with its PLACE and its end as the latest load() left them. */
    private static final class Loader {
        private static final int GOES_ON = -1;
        private static final int BY_START = 0;
        private static final int BETWEEN_ITEMS = 1;
        private static final int IN_AN_ITEM = 2;
        private static final int WRONG = 3;

        private static final int SKIPPED = 16;
        private static final int HIGHEST_FIGURE = 9;
        private static final int LEAST_WORD_END = 17;
        private static final int CONTROL_END = 14;
        private static final int FIRST_PLACE = 64;

        private int place = NONE;
        private int end = NONE;
        private int laid = 0;

        int takeTape(Machine machine) {
            place = FIRST_PLACE;
            laid = 0;
            machine.memory.layShort(41, 0);
            machine.memory.layShort(43, 1);
            end = GOES_ON;
            // Each item takes a SYMBOL or is the end, so there are no more items than this.
            for (int items = 0; items <= MOST_SYMBOLS && end == GOES_ON; items++) {
                end = takeItem(machine);
            }
            return laid;
        }

        /** Takes an item, or one SYMBOL ahead of it that is passed over. */
        private int takeItem(Machine machine) {
            int f = machine.tape.take();
            if (f == NONE) {
                return BETWEEN_ITEMS;
            }
            if (f == SKIPPED) {
                return GOES_ON;
            }
            int n = 0;
            int e = machine.tape.take();
            for (int i = 0; i < MOST_SYMBOLS && e >= 0 && e <= HIGHEST_FIGURE; i++) {
                n = (10 * n + e) & 1023;
                e = machine.tape.take();
            }
            if (e == NONE) {
                return IN_AN_ITEM;
            }
            if (e >= LEAST_WORD_END) {
                layAtPlace(machine, 4096 * f + 2 * n + machine.memory.shortAt(24 + e));
                return GOES_ON;
            }
            return e == CONTROL_END ? control(machine, f, n) : WRONG;
        }

        private void layAtPlace(Machine machine, int bits) {
            machine.memory.layShort(place, bits);
            place = behind(place);
            laid++;
        }

        private int control(Machine machine, int f, int n) {
            switch (f) {
                case TRANSFER:
                    place = n & (ADDRESSES - 1);
                    return GOES_ON;
                case GO_IF_NEGATIVE:
                    machine.memory.layShort(42, 2 * place);
                    return GOES_ON;
                case GO_IF_NOT_NEGATIVE:
                    machine.next = n & (ADDRESSES - 1);
                    return BY_START;
                default:
                    return WRONG;
            }
        }
    }

    /** The addresses that are MARKS. */
    private static final class Marks {
        private final boolean[] isMark = new boolean[ADDRESSES];
        private int size = 0;

        boolean isAt(int n) {
            return isMark[n & (ADDRESSES - 1)];
        }

        void put(int n, boolean on) {
            if (isAt(n) != on) {
                size += on ? 1 : -1;
                isMark[n & (ADDRESSES - 1)] = on;
            }
        }
    }

    /** The addresses that are COME TO. */
    private static final class Flow {
        private final boolean[] comeTo = new boolean[ADDRESSES];
        private final int[] found = new int[ADDRESSES];
        private int size = 0;

        boolean isComeTo(int n) {
            return comeTo[n & (ADDRESSES - 1)];
        }

        int follow(Memory memory, int from) {
            for (int n = 0; n < ADDRESSES; n++) {
                comeTo[n] = false;
            }
            size = 0;
            find(from);
            for (int i = 0; i < size && i < ADDRESSES; i++) {
                findFrom(memory, found[i]);
            }
            return size;
        }

        private void findFrom(Memory memory, int n) {
            int order = memory.shortAt(n);
            int function = functionOf(order);
            if (function == STOP || !isLegal(function)) {
                return;
            }
            find(behind(n));
            if (function == GO_IF_NOT_NEGATIVE || function == GO_IF_NEGATIVE) {
                find(addressOf(order));
            }
        }

        private void find(int n) {
            if (!isComeTo(n) && size >= 0 && size < ADDRESSES) {
                comeTo[n & (ADDRESSES - 1)] = true;
                found[size] = n;
                size++;
            }
        }

        int leastThatAlters(Memory memory) {
            for (int n = 0; n < ADDRESSES; n++) {
                if (comeTo[n] && altersWhatIsComeTo(memory.shortAt(n))) {
                    return n;
                }
            }
            return NONE;
        }

        private boolean altersWhatIsComeTo(int order) {
            int n = addressOf(order);
            switch (functionOf(order)) {
                case TRANSFER:
                case TRANSFER_A_COPY:
                case INPUT:
                case FETCH_PRINTED:
                    return isLongOrder(order) ? isComeTo(n & ~1) || isComeTo(n | 1) : isComeTo(n);
                default:
                    return false;
            }
        }
    }
}
