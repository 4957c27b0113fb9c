/** Each sentence of section 1 and of "Terms" that names an edge has a test of its own here. */
public final class TermsEdgesTest {
    private static final long TOP = 1L << 34;
    private static final long REST = 1L << 36;
    private static final long ALL_35 = (1L << 35) - 1;
    private static final long MIDDLE = 1L << 17;

    public static void main(String[] args) {
        calls();
        addresses();
        longAddresses();
        partsOfALongOne();
        theMiddleBitStays();
        signs();
        sums();
        products();
        othersThatComeToAc();
        lengths();
        symbols();
        partsOfAnOrder();
        theBitNotLookedAt();
        lengthOfC();
        Check.ending();
    }

    private static void calls() {
        Check.sentence("An object is used for at most 512 calls after it has been made; what later calls answer is free.");
        TapeEngine x = new TapeEngine();
        for (int call = 1; call <= 511; call++) {
            Check.due("call " + call, x.store(call & 255, call), 1);
        }
        Check.due("call 512", x.word(255), 511);
    }

    private static void addresses() {
        Check.sentence("1 THE STORE has 256 SHORT words of 17 bits.");
        TapeEngine x = new TapeEngine();
        for (int n = 0; n < 256; n++) {
            x.store(n, 131071 - n);
        }
        for (int n = 0; n < 254; n++) {
            Check.due("word(" + n + ")", x.word(n), 131071 - n);
        }
        x = new TapeEngine();
        Check.due("store(255, 131071)", x.store(255, 131071), 1);
        Check.due("word(255)", x.word(255), 131071);
        Check.due("word(0)", x.word(0), 0);
        Check.due("store(256, 0)", x.store(256, 0), -2);
        Check.due("store(-1, 0)", x.store(-1, 0), -2);
        Check.due("store(0, 131072)", x.store(0, 131072), -3);
    }

    private static void longAddresses() {
        Check.sentence("The LONG one at n is that of 35 bits at n with its lowest bit taken as 0");
        for (int n = 0; n < 256; n += n == 1 ? 253 : 1) {
            TapeEngine x = new TapeEngine();
            Check.due("storeLong(" + n + ", ..)", x.storeLong(n, ALL_35 - 4), 1);
            Check.due("wordLong, even", x.wordLong(n & ~1), -5);
            Check.due("wordLong, odd", x.wordLong(n | 1), -5);
            Check.due("word, even", x.word(n & ~1), 131071 - 4);
            Check.due("word, odd", x.word(n | 1), 131071);
            Check.due("the one behind", x.wordLong((n + 2) & 255), 0);
            Check.due("the one ahead", x.wordLong((n + 254) & 255), 0);
            Check.does(x, 100, Check.A, n, true);
            Check.acIs("A LONG " + n, x, -5, 0);
            x.set(9, 0);
            Check.does(x, 100, Check.U, n, true);
            Check.due("U LONG " + n, x.wordLong(n), 9);
        }
    }

    private static void partsOfALongOne() {
        Check.sentence("its highest 17 bits are the SHORT n + 1, its lowest 17 the SHORT n; between them is a MIDDLE bit of its own.");
        TapeEngine x = new TapeEngine();
        x.store(100, 131071);
        Check.due("the lowest 17", x.wordLong(100), MIDDLE - 1);
        x.store(100, 0);
        x.store(101, 1);
        Check.due("the highest 17", x.wordLong(100), 2 * MIDDLE);
        x.storeLong(102, MIDDLE);
        Check.due("word(102)", x.word(102), 0);
        Check.due("word(103)", x.word(103), 0);
        Check.due("wordLong(102), the MIDDLE bit", x.wordLong(102), MIDDLE);
        x.storeLong(102, ALL_35 - MIDDLE);
        Check.due("word(102)", x.word(102), 131071);
        Check.due("word(103)", x.word(103), 131071);
        Check.due("wordLong(102), all but the MIDDLE bit", x.wordLong(102), -1 - MIDDLE);
        x.storeLong(104, MIDDLE);
        Check.due("each LONG one has its own", x.wordLong(102), -1 - MIDDLE);
        Check.due("wordLong(106)", x.wordLong(106), 0);
    }

    private static void theMiddleBitStays() {
        Check.sentence("A SHORT word that is written leaves the MIDDLE bit.");
        long[] before = {0, MIDDLE, ALL_35 - MIDDLE, ALL_35};
        for (int way = 0; way < 7; way++) {
            for (int n = 64; n < 66; n++) {
                for (long bits : before) {
                    TapeEngine x = new TapeEngine();
                    x.storeLong(64, bits);
                    long v = writeShort(x, way, n);
                    int shift = n == 64 ? 0 : 18;
                    long due = (bits & ~(131071L << shift)) | (v << shift);
                    Check.due("way " + way + " at " + n, x.wordLong(64) & ALL_35, due);
                }
            }
        }
        TapeEngine x = new TapeEngine();
        x.storeLong(40, ALL_35);
        x.storeLong(42, MIDDLE);
        Check.punch(x, "GK");
        x.load();
        Check.due("THE LOADER at 41", x.wordLong(40) & ALL_35, 2 * MIDDLE - 1);
        Check.due("THE LOADER at 42 and 43", x.wordLong(42), 2 * MIDDLE + MIDDLE + 128);
    }

    /** Writes the SHORT word at n in one of seven ways; answers its bits, as they are due then. */
    private static long writeShort(TapeEngine x, int way, int n) {
        long others = x.word(n) & 4095;
        x.set(-1, 0);
        x.punch(21, 1);
        switch (way) {
            case 0:
                x.store(n, 77777);
                return 77777;
            case 1:
                x.order(n, Check.V, 1023, true);
                return 31 * 4096 + 2047;
            case 2:
                Check.does(x, 0, Check.T, n, false);
                return 131071;
            case 3:
                Check.does(x, 0, Check.U, n, false);
                return 131071;
            case 4:
                Check.does(x, 0, Check.I, n, false);
                return 21;
            case 5:
                x.store(2, 9 << 12);
                Check.does(x, 0, Check.O, 2, false);
                Check.does(x, 1, Check.F, n, false);
                return (9 << 12) | others;
            default:
                Check.does(x, 0, Check.I, 2, false);
                Check.punch(x, n == 64 ? "VWF" : "TYTKVWF");
                x.load();
                return 31 * 4096 + 4;
        }
    }

    private static void signs() {
        Check.sentence("Words are read as whole numbers with a sign (two's complement) unless told.");
        long[] shorts = {0, 1, 65535, 65536, 131071};
        long[] dueShorts = {0, 1, 65535, -65536, -1};
        long[] longs = {0, 1, TOP - 1, TOP, ALL_35};
        long[] dueLongs = {0, 1, TOP - 1, -TOP, -1};
        for (int i = 0; i < 5; i++) {
            TapeEngine x = new TapeEngine();
            x.store(100, (int) shorts[i]);
            x.storeLong(102, longs[i]);
            Check.due("word(100), told as bits", x.word(100), shorts[i]);
            Check.due("wordLong(102)", x.wordLong(102), dueLongs[i]);
            Check.does(x, 0, Check.A, 100, false);
            Check.due("A SHORT " + shorts[i], x.top(), dueShorts[i] << 18);
            x.set(0, 0);
            Check.does(x, 0, Check.A, 102, true);
            Check.due("A LONG " + longs[i], x.top(), dueLongs[i]);
            Check.does(x, 0, Check.H, 100, false);
            Check.due("H SHORT " + shorts[i], x.multiplier(), dueShorts[i] << 18);
            Check.does(x, 0, Check.H, 102, true);
            Check.due("H LONG " + longs[i], x.multiplier(), dueLongs[i]);
        }
    }

    /** Does f with C LONG (its 35 bits) at 100, MULT and AC set; AC must be as told then. */
    private static void acBecomes(int f, long mult, long c, long[] ac, long dueTop, long dueRest) {
        TapeEngine x = new TapeEngine();
        x.storeLong(102, mult & ALL_35);
        Check.does(x, 0, Check.H, 102, true);
        x.storeLong(100, c & ALL_35);
        x.set(ac[0], ac[1]);
        Check.does(x, 0, f, 100, true);
        String call = Check.LETTERS.charAt(f) + " with MULT " + mult + ", C " + c + ", AC " + ac[0] + " " + ac[1];
        Check.acIs(call, x, dueTop, dueRest);
    }

    private static long[] ac(long top, long rest) {
        return new long[] {top, rest};
    }

    private static void sums() {
        Check.sentence("AC has 71 bits, MULT 35. All that comes to AC is modulo 2^71, with a sign.");
        acBecomes(Check.A, 0, 1, ac(TOP - 1, 7), -TOP, 7);
        acBecomes(Check.A, 0, 1, ac(TOP - 2, 7), TOP - 1, 7);
        acBecomes(Check.A, 0, -1, ac(-TOP, 7), TOP - 1, 7);
        acBecomes(Check.A, 0, -TOP, ac(-TOP, 7), 0, 7);
        acBecomes(Check.A, 0, TOP - 1, ac(TOP - 1, 7), -2, 7);
        acBecomes(Check.S, 0, 1, ac(-TOP, 7), TOP - 1, 7);
        acBecomes(Check.S, 0, -1, ac(TOP - 1, 7), -TOP, 7);
        acBecomes(Check.S, 0, -TOP, ac(0, 7), -TOP, 7);
        acBecomes(Check.S, 0, -TOP, ac(-TOP, 7), 0, 7);
        acBecomes(Check.S, 0, TOP - 1, ac(-TOP, 7), 1, 7);
    }

    private static void products() {
        Check.sentence("All that comes to AC is modulo 2^71");
        acBecomes(Check.V, -TOP, -TOP, ac(0, 0), -TOP, 0);
        acBecomes(Check.V, -TOP, -TOP, ac(-TOP, 9), 0, 9);
        acBecomes(Check.V, 1, 1, ac(TOP - 1, REST - 4), -TOP, 0);
        acBecomes(Check.V, 1, 1, ac(TOP - 1, REST - 5), TOP - 1, REST - 1);
        acBecomes(Check.V, 1, -1, ac(-TOP, 3), TOP - 1, REST - 1);
        acBecomes(Check.V, TOP - 1, TOP - 1, ac(0, 0), TOP - 2, 4);
        acBecomes(Check.V, TOP - 1, -TOP, ac(0, 0), -TOP + 1, 0);
        acBecomes(Check.N, -TOP, -TOP, ac(0, 0), -TOP, 0);
        acBecomes(Check.N, 1, 1, ac(-TOP, 3), TOP - 1, REST - 1);
        acBecomes(Check.N, 1, 1, ac(-TOP, 4), -TOP, 0);
        acBecomes(Check.N, -1, 1, ac(TOP - 1, REST - 4), -TOP, 0);
        acBecomes(Check.N, TOP - 1, TOP - 1, ac(0, 0), -TOP + 1, REST - 4);
        acBecomes(Check.N, TOP - 1, -TOP, ac(0, 0), TOP - 1, 0);
    }

    private static void othersThatComeToAc() {
        Check.sentence("All that comes to AC is modulo 2^71, with a sign.");
        acBecomes(Check.C, 1, 1, ac(TOP - 1, 5), -TOP, 5);
        acBecomes(Check.C, -TOP, -1, ac(-TOP, 5), 0, 5);
        acBecomes(Check.C, -1, -1, ac(-TOP, 5), TOP - 1, 5);
        acBecomes(Check.Y, 0, 0, ac(TOP - 1, REST / 2), -TOP, 0);
        acBecomes(Check.Y, 0, 0, ac(TOP - 1, REST / 2 - 1), TOP - 1, REST - 1);
        acBecomes(Check.Y, 0, 0, ac(-1, REST - 1), 0, REST / 2 - 1);
        // ADDRESS 100 and LENGTH 1: p is 1
        acBecomes(Check.L, 0, 0, ac(TOP - 1, REST - 1), -1, REST - 2);
        acBecomes(Check.L, 0, 0, ac(TOP / 2, 0), -TOP, 0);
        acBecomes(Check.L, 0, 0, ac(-TOP, 1), 0, 2);
        acBecomes(Check.L, 0, 0, ac(-TOP / 2 - 1, REST - 1), TOP - 1, REST - 2);
    }

    private static void lengths() {
        Check.sentence("A SHORT s counts s 2^54 in AC, and s 2^18 as 35 bits; a LONG l counts l 2^36, and l.");
        TapeEngine x = new TapeEngine();
        x.store(100, 1);
        x.storeLong(102, 1);
        Check.does(x, 0, Check.A, 100, false);
        Check.acIs("A SHORT 1", x, 1L << 18, 0);
        x.set(0, 0);
        Check.does(x, 0, Check.A, 102, true);
        Check.acIs("A LONG 1", x, 1, 0);
        Check.does(x, 0, Check.H, 100, false);
        Check.due("H SHORT 1", x.multiplier(), 1L << 18);
        Check.does(x, 0, Check.H, 102, true);
        Check.due("H LONG 1", x.multiplier(), 1);
        x.set(0, 0);
        Check.does(x, 0, Check.V, 100, false);
        Check.acIs("V LONG 1, SHORT 1", x, 0, 4L << 18);
        // neither the MIDDLE bit nor the other half comes to a SHORT C
        x.storeLong(104, ALL_35);
        x.store(105, 0);
        x.set(0, 0);
        Check.does(x, 0, Check.A, 105, false);
        Check.acIs("A SHORT 0 beside a MIDDLE bit", x, 0, 0);
    }

    private static void symbols() {
        Check.sentence("SYMBOLS are 0 .. 31, with letters PQWERTYUIOJ#SZK*.F@D!HNM&LXGABCV in this order.");
        TapeEngine x = new TapeEngine();
        Check.due("order(0, 0, ..)", x.order(0, 0, 0, false), 1);
        Check.due("order(0, 31, ..)", x.order(0, 31, 0, false), 1);
        Check.due("order(0, 32, ..)", x.order(0, 32, 0, false), -2);
        Check.due("order(0, -1, ..)", x.order(0, -1, 0, false), -2);
        Check.due("done(0)", x.done(0), 0);
        Check.due("done(31)", x.done(31), 0);
        Check.due("done(32)", x.done(32), -2);
        Check.due("done(-1)", x.done(-1), -2);
        String writing = "PQWERTYUIOJSZKFDHNMLXGABCV";
        for (int i = 0; i < writing.length(); i++) {
            int symbol = "PQWERTYUIOJ#SZK*.F@D!HNM&LXGABCV".indexOf(writing.charAt(i));
            x.store(100, symbol << 12);
            Check.does(x, 0, Check.O, 100, false);
            Check.due("SYMBOL " + symbol, x.text(i), writing.charAt(i));
            Check.due("count(5)", x.count(5), symbol);
        }
    }

    private static void partsOfAnOrder() {
        Check.sentence("An ORDER is a SHORT word: the highest five bits its FUNCTION (a SYMBOL)");
        TapeEngine x = new TapeEngine();
        // the words of X are 26 2^12 and all up to the first of G
        int[] bits = {(26 << 12) - 1, 26 << 12, (27 << 12) - 1, 27 << 12};
        int[] functions = {Check.L, Check.X, Check.X, Check.G};
        int[] due = {1, 1, 2, 1};
        for (int i = 0; i < bits.length; i++) {
            x.store(0, bits[i]);
            x.start(0);
            Check.due("run(1)", x.run(1), 1);
            Check.due("done(" + functions[i] + ")", x.done(functions[i]), due[i]);
        }
    }

    private static void theBitNotLookedAt() {
        Check.sentence("one that is not looked at, ten of which the lowest eight are its ADDRESS n");
        int[] a = {0, 1, 255, 256, 257, 511, 512, 768, 1023};
        for (int address : a) {
            for (int unseen = 0; unseen < 2; unseen++) {
                TapeEngine x = new TapeEngine();
                for (int n = 0; n < 256; n++) {
                    x.store(n, n == 0 ? 256 : n);
                }
                x.store(100, (Check.A << 12) | (unseen << 11) | (address << 1));
                x.start(100);
                x.run(1);
                int n = address % 256;
                Check.due("A " + address + ", unseen " + unseen, x.top() >> 18, n == 0 ? 256 : n);
                x.store(100, (Check.E << 12) | (unseen << 11) | (address << 1));
                x.start(100);
                x.run(1);
                Check.due("E " + address + ", unseen " + unseen, x.count(0), n);
                x.store(100, (Check.U << 12) | (unseen << 11) | (address << 1));
                x.set(77L << 18, 0);
                x.start(100);
                x.run(1);
                Check.due("U " + address + ", unseen " + unseen, x.word(n), 77);
            }
        }
    }

    private static void lengthOfC() {
        Check.sentence("the lowest one LENGTH: 1 for LONG. C is the word at n of that LENGTH.");
        for (int n = 100; n < 102; n++) {
            TapeEngine x = new TapeEngine();
            x.storeLong(100, (3L << 18) | MIDDLE | 5);
            x.store(0, (Check.A << 12) | (n << 1));
            x.start(0);
            x.run(1);
            Check.acIs("A " + n + ", lowest bit 0", x, (n == 100 ? 5L : 3L) << 18, 0);
            x.set(0, 0);
            x.store(0, (Check.A << 12) | (n << 1) | 1);
            x.start(0);
            x.run(1);
            Check.acIs("A " + n + ", lowest bit 1", x, (3L << 18) | MIDDLE | 5, 0);
        }
    }
}
