/** Promises 7 to 10, and what the FUNCTIONS do with AC, MULT and C. */
public final class AccumulatorTest {
    private static final long TOP = 1L << 34;
    private static final long REST = 1L << 36;

    public static void main(String[] args) {
        topAndRest();
        set();
        multiplier();
        addAndSubtract();
        products();
        transfers();
        collate();
        shifts();
        round();
        Check.ending();
    }

    private static void topAndRest() {
        Check.promise(7);
        TapeEngine x = new TapeEngine();
        x.set(-1, 0);
        Check.due("top()", x.top(), -1);
        x.set(TOP - 1, 0);
        Check.due("top()", x.top(), TOP - 1);
        x.set(-TOP, 5);
        Check.due("top()", x.top(), -TOP);
        Check.promise(8);
        Check.due("rest()", x.rest(), 5);
        x.set(0, REST - 1);
        Check.due("rest(), without sign", x.rest(), REST - 1);
    }

    private static void set() {
        Check.promise(9);
        TapeEngine x = new TapeEngine();
        Check.due("set(-2^34, 2^36 - 1)", x.set(-TOP, REST - 1), 1);
        Check.acIs("set", x, -TOP, REST - 1);
        Check.due("set(-2^34 - 1, 0)", x.set(-TOP - 1, 0), -3);
        Check.due("set(2^34, 0)", x.set(TOP, 0), -3);
        Check.due("set(0, -1)", x.set(0, -1), -3);
        Check.due("set(0, 2^36)", x.set(0, REST), -3);
        Check.acIs("refused", x, -TOP, REST - 1);
        Check.due("set(2^34 - 1, 0)", x.set(TOP - 1, 0), 1);
        Check.acIs("set", x, TOP - 1, 0);
        Check.does(x, 20, Check.X, 0, false);
        x.set(TOP, 0);
        Check.due("count(7) behind a refusal", x.count(7), 1);
        x.set(0, 0);
        Check.due("count(7)", x.count(7), 0);
    }

    private static void multiplier() {
        Check.promise(10);
        TapeEngine x = new TapeEngine();
        x.store(100, 131071);
        Check.does(x, 0, Check.H, 100, false);
        Check.due("multiplier(), SHORT -1", x.multiplier(), -(1L << 18));
        x.storeLong(102, (1L << 35) - 3);
        Check.does(x, 0, Check.H, 103, true);
        Check.due("multiplier(), LONG -3", x.multiplier(), -3);
        Check.acIs("H", x, 0, 0);
        x.store(100, 65535);
        Check.does(x, 0, Check.H, 100, false);
        Check.due("multiplier()", x.multiplier(), 65535L << 18);
    }

    private static void addAndSubtract() {
        Check.promise(18);
        TapeEngine x = new TapeEngine();
        x.store(100, 131070);
        x.storeLong(102, 7);
        x.set(0, 9);
        Check.does(x, 0, Check.A, 100, false);
        Check.acIs("A SHORT -2", x, -(2L << 18), 9);
        Check.does(x, 0, Check.A, 103, true);
        Check.acIs("A LONG 7", x, -(2L << 18) + 7, 9);
        Check.does(x, 0, Check.S, 102, true);
        Check.does(x, 0, Check.S, 100, false);
        Check.acIs("S", x, 0, 9);
        x.set(TOP - 1, 9);
        x.storeLong(102, 1);
        Check.does(x, 0, Check.A, 102, true);
        Check.acIs("A modulo 2^71", x, -TOP, 9);
        Check.does(x, 0, Check.S, 102, true);
        Check.acIs("S modulo 2^71", x, TOP - 1, 9);
        x.set(0, 0);
        // only the lowest eight of the ten bits are the ADDRESS; the bit above is not looked at
        x.store(0, (Check.A << 12) | (1 << 11) | ((768 + 102) << 1) | 1);
        x.start(0);
        x.run(1);
        Check.acIs("A, bits above the ADDRESS", x, 1, 0);
    }

    private static void products() {
        Check.promise(18);
        TapeEngine x = new TapeEngine();
        x.storeLong(100, 3);
        x.storeLong(102, 5);
        Check.does(x, 0, Check.H, 100, true);
        Check.does(x, 0, Check.V, 102, true);
        Check.acIs("V 3 times 5", x, 0, 60);
        Check.does(x, 0, Check.N, 102, true);
        Check.does(x, 0, Check.N, 102, true);
        Check.acIs("N 3 times 5", x, -1, REST - 60);
        // a half times a half is a quarter: 2^33 2^33 4 = 2^68 = 2^32 2^36
        x.set(0, 0);
        x.store(104, 32768);
        Check.does(x, 0, Check.H, 104, false);
        Check.does(x, 0, Check.V, 104, false);
        Check.acIs("V a half, a half", x, 1L << 32, 0);
        // -1 times -1 is 1, which is -1 modulo 2^71
        x.set(0, 1);
        x.storeLong(106, TOP);
        Check.does(x, 0, Check.H, 106, true);
        Check.does(x, 0, Check.V, 106, true);
        Check.acIs("V -1, -1", x, -TOP, 1);
        x.set(0, 0);
        x.storeLong(108, (1L << 35) - 1);
        Check.does(x, 0, Check.V, 108, true);
        Check.acIs("V -2^34, -1", x, 1, 0);
        x.storeLong(108, 1);
        Check.does(x, 0, Check.V, 108, true);
        Check.acIs("V -2^34, 1", x, 0, 0);
        Check.does(x, 0, Check.H, 108, true);
        x.storeLong(108, TOP - 1);
        Check.does(x, 0, Check.V, 108, true);
        Check.acIs("V 1, 2^34 - 1", x, 0, REST - 4);
        Check.due("multiplier() stays", x.multiplier(), 1);
    }

    private static void transfers() {
        Check.promise(18);
        TapeEngine x = new TapeEngine();
        x.storeLong(100, 1L << 17);
        x.set(-TOP + (3L << 18) + (1L << 17) + 6, 77);
        Check.does(x, 0, Check.U, 100, false);
        Check.due("word(100)", x.word(100), 65536 + 3);
        Check.due("word(101)", x.word(101), 0);
        Check.due("the MIDDLE bit stays", x.wordLong(100), (1L << 17) + 65536 + 3);
        Check.acIs("U", x, -TOP + (3L << 18) + (1L << 17) + 6, 77);
        Check.does(x, 0, Check.U, 103, true);
        Check.due("wordLong(102)", x.wordLong(102), -TOP + (3L << 18) + (1L << 17) + 6);
        Check.does(x, 0, Check.T, 104, true);
        Check.due("wordLong(104)", x.wordLong(104), -TOP + (3L << 18) + (1L << 17) + 6);
        Check.acIs("T LONG", x, 0, 0);
        x.set(5L << 18, 77);
        Check.does(x, 0, Check.T, 105, false);
        Check.due("word(105)", x.word(105), 5);
        Check.acIs("T SHORT", x, 0, 0);
        Check.does(x, 0, Check.T, 100, true);
        Check.due("T LONG writes the MIDDLE bit", x.wordLong(100), 0);
    }

    private static void collate() {
        Check.promise(18);
        TapeEngine x = new TapeEngine();
        x.storeLong(100, (1L << 35) - 2);
        x.storeLong(102, TOP | 7);
        x.set(10, 3);
        Check.does(x, 0, Check.H, 100, true);
        Check.does(x, 0, Check.C, 102, true);
        Check.acIs("C", x, -TOP + 16, 3);
        x.store(104, 9);
        x.set(10, 3);
        Check.does(x, 0, Check.C, 104, false);
        Check.acIs("C SHORT", x, 10 + (9L << 18), 3);
    }

    private static void shifts() {
        Check.promise(18);
        TapeEngine x = new TapeEngine();
        for (int place = 0; place <= 10; place++) {
            x.set(-TOP, 1L << 35);
            doOrder(x, (Check.R << 12) | (1 << place));
            Check.acIs("R " + place, x, -TOP >> (place + 1), 1L << (34 - place));
            x.set(0, REST - 1);
            doOrder(x, (Check.L << 12) | (1 << place));
            long low = ((REST - 1) << (place + 1)) & (REST - 1);
            Check.acIs("L " + place, x, (1L << (place + 1)) - 1, low);
        }
        x.set(3, 1);
        doOrder(x, Check.R << 12);
        Check.acIs("R 15", x, 0, (3L << 21));
        x.set(TOP - 1, 1);
        doOrder(x, Check.L << 12);
        Check.acIs("L 13", x, -(1L << 13), 1L << 13);
        x.set(-1, REST - 1);
        doOrder(x, (Check.R << 12) | 7);
        Check.acIs("R keeps the sign", x, -1, REST - 1);
        x.set(0, 8);
        doOrder(x, (Check.R << 12) | 2047);
        Check.acIs("R by the lowest bit alone", x, 0, 4);
    }

    private static void doOrder(TapeEngine x, int bits) {
        x.store(0, bits);
        x.start(0);
        x.run(1);
    }

    private static void round() {
        Check.promise(18);
        TapeEngine x = new TapeEngine();
        x.set(4, (1L << 35) - 1);
        Check.does(x, 0, Check.Y, 0, false);
        Check.acIs("Y", x, 4, REST - 1);
        Check.does(x, 0, Check.Y, 0, false);
        Check.acIs("Y carries", x, 5, (1L << 35) - 1);
        x.set(TOP - 1, 1L << 35);
        Check.does(x, 0, Check.Y, 0, false);
        Check.acIs("Y modulo 2^71", x, -TOP, 0);
        Check.does(x, 0, Check.X, 0, false);
        Check.acIs("X", x, -TOP, 0);
    }
}
