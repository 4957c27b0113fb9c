/** Promises 1 to 6: a new object, and the store. */
public final class StoreTest {
    private static final long LEAST = Long.MIN_VALUE;

    public static void main(String[] args) {
        aNewObject();
        store();
        storeLong();
        word();
        wordLong();
        order();
        Check.ending();
    }

    private static void aNewObject() {
        Check.promise(1);
        TapeEngine x = new TapeEngine();
        for (int n = 0; n < 256; n++) {
            Check.due("word(" + n + ")", x.word(n), 0);
            Check.due("reached(" + n + ")", x.reached(n), 0);
        }
        x = new TapeEngine();
        for (int n = 0; n < 256; n++) {
            Check.due("wordLong(" + n + ")", x.wordLong(n), 0);
        }
        for (int f = 0; f < 32; f++) {
            Check.due("done(" + f + ")", x.done(f), 0);
        }
        long[] counts = {0, 0, 0, 0, 0, -1, 0, 0, -1};
        for (int what = 0; what < counts.length; what++) {
            Check.due("count(" + what + ")", x.count(what), counts[what]);
        }
        Check.acIs("new", x, 0, 0);
        Check.due("multiplier()", x.multiplier(), 0);
        Check.due("text(0)", x.text(0), -2);
        Check.due("loaded()", x.loaded(), -1);
        Check.due("why()", x.why(), -1);
        Check.due("alters()", x.alters(), -1);
        Check.due("back()", x.back(), -4);
        Check.due("recall()", x.recall(), -4);
    }

    private static void store() {
        Check.promise(2);
        TapeEngine x = new TapeEngine();
        Check.due("store(0, 131071)", x.store(0, 131071), 1);
        Check.due("store(255, 1)", x.store(255, 1), 1);
        Check.due("word(0)", x.word(0), 131071);
        Check.due("word(255)", x.word(255), 1);
        Check.due("word(1)", x.word(1), 0);
        long state = Check.state(x);
        Check.due("store(-1, 0)", x.store(-1, 0), -2);
        Check.due("store(256, 0)", x.store(256, 0), -2);
        Check.due("store(256, -1)", x.store(256, -1), -2);
        Check.due("store(0, -1)", x.store(0, -1), -3);
        Check.due("store(0, 131072)", x.store(0, 131072), -3);
        Check.due("state", Check.state(x), state);
        // a SHORT word that is written leaves the MIDDLE bit
        x.storeLong(8, 1L << 17);
        x.store(8, 0);
        x.store(9, 0);
        Check.due("wordLong(8)", x.wordLong(8), 1L << 17);
        x.store(8, 0);
        Check.does(x, 20, Check.X, 0, false);
        x.store(8, 3);
        Check.due("count(7)", x.count(7), 0);
        Check.does(x, 20, Check.X, 0, false);
        x.store(8, 131072);
        x.store(256, 1);
        Check.due("count(7) behind refusals", x.count(7), 1);
    }

    private static void storeLong() {
        Check.promise(3);
        TapeEngine x = new TapeEngine();
        Check.due("storeLong(255, 2^35 - 1)", x.storeLong(255, (1L << 35) - 1), 1);
        Check.due("word(254)", x.word(254), 131071);
        Check.due("word(255)", x.word(255), 131071);
        Check.due("wordLong(254)", x.wordLong(254), -1);
        Check.due("storeLong(255, 0)", x.storeLong(255, 0), 1);
        Check.due("wordLong(254)", x.wordLong(254), 0);
        Check.due("storeLong(6, ..)", x.storeLong(6, (5L << 18) | (1L << 17) | 9), 1);
        Check.due("word(7)", x.word(7), 5);
        Check.due("word(6)", x.word(6), 9);
        Check.due("wordLong(7)", x.wordLong(7), (5L << 18) | (1L << 17) | 9);
        long state = Check.state(x);
        Check.due("storeLong(-1, 0)", x.storeLong(-1, 0), -2);
        Check.due("storeLong(256, -1)", x.storeLong(256, -1), -2);
        Check.due("storeLong(0, -1)", x.storeLong(0, -1), -3);
        Check.due("storeLong(0, 2^35)", x.storeLong(0, 1L << 35), -3);
        Check.due("storeLong(0, least)", x.storeLong(0, LEAST), -3);
        Check.due("state", Check.state(x), state);
        Check.does(x, 20, Check.X, 0, false);
        x.storeLong(0, -1);
        Check.due("count(7) behind a refusal", x.count(7), 1);
        x.storeLong(0, 1);
        Check.due("count(7)", x.count(7), 0);
    }

    private static void word() {
        Check.promise(4);
        TapeEngine x = new TapeEngine();
        x.store(3, 65536);
        Check.due("word(3), without sign", x.word(3), 65536);
        Check.due("word(-1)", x.word(-1), -2);
        Check.due("word(256)", x.word(256), -2);
        Check.due("word(most)", x.word(Integer.MAX_VALUE), -2);
    }

    private static void wordLong() {
        Check.promise(5);
        TapeEngine x = new TapeEngine();
        x.storeLong(10, 1L << 34);
        Check.due("wordLong(10)", x.wordLong(10), -(1L << 34));
        Check.due("wordLong(11)", x.wordLong(11), -(1L << 34));
        Check.due("wordLong(9)", x.wordLong(9), 0);
        Check.due("wordLong(12)", x.wordLong(12), 0);
        x.storeLong(10, (1L << 34) - 1);
        Check.due("wordLong(10)", x.wordLong(10), (1L << 34) - 1);
        Check.due("wordLong(-1)", x.wordLong(-1), LEAST);
        Check.due("wordLong(256)", x.wordLong(256), LEAST);
    }

    private static void order() {
        Check.promise(6);
        TapeEngine x = new TapeEngine();
        Check.due("order(0, A, 100, false)", x.order(0, Check.A, 100, false), 1);
        Check.due("word(0)", x.word(0), 28 * 4096 + 200);
        Check.due("order(255, V, 1023, true)", x.order(255, Check.V, 1023, true), 1);
        Check.due("word(255), all ten bits", x.word(255), 31 * 4096 + 2047);
        Check.due("order(1, P, 0, true)", x.order(1, Check.P, 0, true), 1);
        Check.due("word(1)", x.word(1), 1);
        long state = Check.state(x);
        Check.due("order(256, 0, 0, false)", x.order(256, 0, 0, false), -2);
        Check.due("order(-1, 0, 0, false)", x.order(-1, 0, 0, false), -2);
        Check.due("order(0, 32, 0, false)", x.order(0, 32, 0, false), -2);
        Check.due("order(0, -1, 1024, false)", x.order(0, -1, 1024, false), -2);
        Check.due("order(0, 0, 1024, false)", x.order(0, 0, 1024, false), -3);
        Check.due("order(0, 0, -1, false)", x.order(0, 0, -1, false), -3);
        Check.due("state", Check.state(x), state);
        Check.does(x, 20, Check.X, 0, false);
        x.order(0, 0, 1024, false);
        Check.due("count(7) behind a refusal", x.count(7), 1);
        x.order(0, 0, 0, false);
        Check.due("count(7)", x.count(7), 0);
    }
}
