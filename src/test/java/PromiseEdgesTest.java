import java.util.Arrays;

/** Each sentence of the promises that names an edge has a test of its own here, in their order. */
public final class PromiseEdgesTest {
    private static final long TOP = 1L << 34;
    private static final long REST = 1L << 36;
    private static final long ALL_35 = (1L << 35) - 1;

    public static void main(String[] args) {
        aNewObject();
        store();
        storeLong();
        word();
        wordLong();
        order();
        top();
        rest();
        set();
        multiplier();
        punch();
        punchFull();
        rewind();
        text();
        tear();
        load();
        loaded();
        noneLoaded();
        start();
        runMost();
        runToMarks();
        why();
        whyZeroAheadOfMarks();
        noneRun();
        mark();
        markFull();
        back();
        done();
        reach();
        reached();
        alters();
        image();
        recall();
        counts();
        Check.ending();
    }

    private static void aNewObject() {
        Check.sentence("`TapeEngine()`: STORE, AC, MULT are 0; THE TAPE, THE TEXT are empty; the next ORDER is that at 0.");
        Check.due("words", Arrays.equals(Looks.shorts(new TapeEngine()), new long[256]) ? 1 : 0, 1);
        Check.due("MIDDLE bits", Arrays.equals(Looks.longs(new TapeEngine()), new long[128]) ? 1 : 0, 1);
        Check.due("MARKS", Arrays.equals(Looks.marks(new TapeEngine()), new long[256]) ? 1 : 0, 1);
        TapeEngine x = new TapeEngine();
        Check.acIs("AC", x, 0, 0);
        Check.due("multiplier()", x.multiplier(), 0);
        long[] due = {0, 0, 0, 0, 0, -1, 0, 0, -1};
        for (int what = 0; what < due.length; what++) {
            Check.due("count(" + what + ")", x.count(what), due[what]);
        }
        // one object has nothing of another
        TapeEngine other = new TapeEngine();
        other.store(5, 6);
        other.set(7, 8);
        other.punch(1, 1);
        other.image();
        other.mark(1, true);
        Check.due("word(5)", x.word(5), 0);
        Check.acIs("AC", x, 0, 0);
        Check.due("count(1)", x.count(1), 0);
        Check.due("count(6)", x.count(6), 0);
        Check.due("recall()", x.recall(), -4);
    }

    private static void store() {
        Check.sentence("The SHORT word at n becomes v (0 .. 131071, its bits): 1. UNKNOWN; OUTSIDE.");
        int[] values = {0, 1, 65535, 65536, 131070, 131071};
        int[] places = {0, 1, 254, 255};
        for (int v : values) {
            for (int n : places) {
                TapeEngine x = new TapeEngine();
                Check.due("store(" + n + ", " + v + ")", x.store(n, v), 1);
                Check.due("word(" + n + ")", x.word(n), v);
                Check.due("word(" + (n ^ 1) + ")", x.word(n ^ 1), 0);
                Check.due("store(" + n + ", 131072)", x.store(n, 131072), -3);
                Check.due("store(" + n + ", -1)", x.store(n, -1), -3);
                Check.due("word(" + n + ") stays", x.word(n), v);
                Check.due("store(256, " + v + ")", x.store(256, v), -2);
                Check.due("store(-1, " + v + ")", x.store(-1, v), -2);
            }
        }
    }

    private static void storeLong() {
        Check.sentence("The LONG word at n becomes v (its 35 bits, 0 .. 2^35 - 1): 1. UNKNOWN; OUTSIDE.");
        long[] values = {0, 1, 131071, 131072, 262143, 262144, TOP - 1, TOP, ALL_35 - 1, ALL_35};
        int[] places = {0, 1, 254, 255};
        for (long v : values) {
            for (int n : places) {
                TapeEngine x = new TapeEngine();
                Check.due("storeLong(" + n + ", " + v + ")", x.storeLong(n, v), 1);
                Check.due("wordLong(" + n + ")", x.wordLong(n), v >= TOP ? v - 2 * TOP : v);
                Check.due("word, even", x.word(n & ~1), v & 131071);
                Check.due("word, odd", x.word(n | 1), v >> 18);
                Check.due("storeLong(" + n + ", 2^35)", x.storeLong(n, ALL_35 + 1), -3);
                Check.due("storeLong(" + n + ", -1)", x.storeLong(n, -1), -3);
                Check.due("wordLong(" + n + ") stays", x.wordLong(n), v >= TOP ? v - 2 * TOP : v);
                Check.due("storeLong(256, ..)", x.storeLong(256, v), -2);
                Check.due("storeLong(-1, ..)", x.storeLong(-1, v), -2);
            }
        }
    }

    private static void word() {
        Check.sentence("`int word(int n)`: The bits of the SHORT word at n. UNKNOWN.");
        TapeEngine x = new TapeEngine();
        x.store(0, 131071);
        x.store(255, 65536);
        Check.due("word(0), no sign", x.word(0), 131071);
        Check.due("word(255), no sign", x.word(255), 65536);
        Check.due("word(-1)", x.word(-1), -2);
        Check.due("word(256)", x.word(256), -2);
    }

    private static void wordLong() {
        Check.sentence("The LONG word at n, with its sign. The least long: UNKNOWN.");
        TapeEngine x = new TapeEngine();
        x.storeLong(0, TOP);
        x.storeLong(254, TOP - 1);
        Check.due("wordLong(0)", x.wordLong(0), -TOP);
        Check.due("wordLong(1)", x.wordLong(1), -TOP);
        Check.due("wordLong(255)", x.wordLong(255), TOP - 1);
        x.storeLong(254, ALL_35);
        Check.due("wordLong(255)", x.wordLong(255), -1);
        Check.due("wordLong(-1)", x.wordLong(-1), Long.MIN_VALUE);
        Check.due("wordLong(256)", x.wordLong(256), Long.MIN_VALUE);
    }

    private static void order() {
        Check.sentence("An ORDER becomes the SHORT word at n: FUNCTION f, ADDRESS a (0 .. 1023, all ten bits), LENGTH: 1. UNKNOWN: n, f; OUTSIDE.");
        TapeEngine x = new TapeEngine();
        x.store(0, 131071);
        Check.due("order(0, 0, 0, false)", x.order(0, 0, 0, false), 1);
        Check.due("word(0), its unseen bit 0, too", x.word(0), 0);
        Check.due("order(255, 31, 1023, true)", x.order(255, 31, 1023, true), 1);
        Check.due("word(255)", x.word(255), 131071 - 2048);
        Check.due("order(0, 0, 256, false)", x.order(0, 0, 256, false), 1);
        Check.due("word(0), all ten bits", x.word(0), 512);
        Check.due("order(0, 16, 0, true)", x.order(0, 16, 0, true), 1);
        Check.due("word(0)", x.word(0), 65537);
        Check.due("order(256, ..)", x.order(256, 1, 1, false), -2);
        Check.due("order(-1, ..)", x.order(-1, 1, 1, false), -2);
        Check.due("order(0, 32, ..)", x.order(0, 32, 1, false), -2);
        Check.due("order(0, -1, ..)", x.order(0, -1, 1, false), -2);
        Check.due("order(0, 1, 1024, ..)", x.order(0, 1, 1024, false), -3);
        Check.due("order(0, 1, -1, ..)", x.order(0, 1, -1, false), -3);
        Check.due("word(0) stays", x.word(0), 65537);
    }

    private static void top() {
        Check.sentence("`long top()`: The highest 35 bits of AC, with their sign.");
        long[] tops = {0, -1, 1, TOP - 1, -TOP};
        for (long top : tops) {
            TapeEngine x = new TapeEngine();
            x.set(top, 0);
            Check.due("top(), rest 0", x.top(), top);
            x.set(top, REST - 1);
            Check.due("top(), the most rest", x.top(), top);
        }
    }

    private static void rest() {
        Check.sentence("`long rest()`: The lowest 36 bits of AC (without sign).");
        long[] rests = {0, 1, REST / 2 - 1, REST / 2, REST - 1};
        for (long rest : rests) {
            TapeEngine x = new TapeEngine();
            x.set(0, rest);
            Check.due("rest(), top 0", x.rest(), rest);
            x.set(-1, rest);
            Check.due("rest(), top -1", x.rest(), rest);
        }
    }

    private static void set() {
        Check.sentence("AC becomes top 2^36 and rest: 1. OUTSIDE: top -2^34 .. 2^34 - 1, rest 0 .. 2^36 - 1.");
        TapeEngine x = new TapeEngine();
        Check.due("set(-2^34, 0)", x.set(-TOP, 0), 1);
        Check.acIs("set", x, -TOP, 0);
        Check.due("set(2^34 - 1, 2^36 - 1)", x.set(TOP - 1, REST - 1), 1);
        Check.acIs("set", x, TOP - 1, REST - 1);
        Check.due("set(-2^34 - 1, 0)", x.set(-TOP - 1, 0), -3);
        Check.due("set(2^34, 0)", x.set(TOP, 0), -3);
        Check.due("set(0, -1)", x.set(0, -1), -3);
        Check.due("set(0, 2^36)", x.set(0, REST), -3);
        Check.due("set(least, 0)", x.set(Long.MIN_VALUE, 0), -3);
        Check.due("set(most, 0)", x.set(Long.MAX_VALUE, 0), -3);
        Check.due("set(0, least)", x.set(0, Long.MIN_VALUE), -3);
        Check.due("set(0, most)", x.set(0, Long.MAX_VALUE), -3);
        Check.acIs("set, refused", x, TOP - 1, REST - 1);
        Check.due("set(0, 0)", x.set(0, 0), 1);
        Check.acIs("set", x, 0, 0);
    }

    private static void multiplier() {
        Check.sentence("`long multiplier()`: MULT, with its sign.");
        long[] values = {0, 1, TOP - 1, TOP, ALL_35};
        for (long v : values) {
            TapeEngine x = new TapeEngine();
            x.storeLong(100, v);
            Check.does(x, 0, Check.H, 100, true);
            Check.due("multiplier()", x.multiplier(), v >= TOP ? v - 2 * TOP : v);
        }
    }

    private static void punch() {
        Check.sentence("SYMBOLS come behind THE TAPE, n of them (1 .. 12), each five bits of v, the highest of 5 n bits first: how many it has.");
        for (int n = 1; n <= 12; n++) {
            TapeEngine x = new TapeEngine();
            x.punch(17, 1);
            long v = 0;
            for (int i = 0; i < n; i++) {
                v = 32 * v + (7 * i + 1) % 32;
            }
            Check.due("punch(.., " + n + ")", x.punch(v, n), 1 + n);
            Check.due("punch(-1, 1)", x.punch(-1, 1), 2 + n);
            long[] seen = Looks.symbols(x);
            Check.due("SYMBOL 0", seen[1], 17);
            for (int i = 0; i < n; i++) {
                Check.due("SYMBOL " + i + " of " + n, seen[2 + i], (7 * i + 1) % 32);
            }
            Check.due("the last SYMBOL", seen[2 + n], 31);
        }
        TapeEngine x = new TapeEngine();
        Check.due("punch(-1, 12)", x.punch(-1, 12), 12);
        Check.due("punch(2^60, 12)", x.punch(1L << 60, 12), 24);
        Check.due("punch(32, 1)", x.punch(32, 1), 25);
        Check.due("punch(0, 0)", x.punch(0, 0), -3);
        Check.due("punch(0, 13)", x.punch(0, 13), -3);
        long[] seen = Looks.symbols(x);
        for (int i = 0; i < 25; i++) {
            Check.due("SYMBOL " + i, seen[1 + i], i < 12 ? 31 : 0);
        }
    }

    private static void punchFull() {
        Check.sentence("how many it has. OUTSIDE; FULL: 1000.");
        TapeEngine x = new TapeEngine();
        for (int i = 11; i < 990; i += 11) {
            Check.due("punch(0, 11)", x.punch(0, 11), i);
        }
        Check.due("count(1)", x.count(1), 979);
        Check.due("punch(0, 10)", x.punch(0, 10), 989);
        Check.due("punch(0, 12), 1 too many", x.punch(0, 12), -5);
        Check.due("punch(0, 11), 1000", x.punch(0, 11), 1000);
        Check.due("punch(0, 1)", x.punch(0, 1), -5);
        Check.due("punch(0, 0)", x.punch(0, 0), -3);
        Check.due("count(1)", x.count(1), 1000);
        // what is taken makes no room
        x.order(0, Check.I, 100, false);
        x.run(1);
        Check.due("punch(0, 1), one taken", x.punch(0, 1), -5);
        x.rewind();
        Check.due("punch(0, 1), wound back", x.punch(0, 1), -5);
    }

    private static void rewind() {
        Check.sentence("THE TAPE is wound back to its first SYMBOL: how many had been taken.");
        TapeEngine x = new TapeEngine();
        Check.due("rewind(), an empty TAPE", x.rewind(), 0);
        Check.punch(x, "AQF.");
        Check.due("rewind(), none taken", x.rewind(), 0);
        Check.does(x, 0, Check.I, 100, false);
        Check.due("rewind(), by I", x.rewind(), 1);
        x.load();
        Check.due("rewind(), by load(), 16 too", x.rewind(), 4);
        Check.due("rewind(), wound back", x.rewind(), 0);
        Check.due("count(1) stays", x.count(1), 4);
        Check.does(x, 0, Check.I, 100, false);
        Check.due("word(100), the first SYMBOL", x.word(100), Check.A);
        x.back();
        Check.due("rewind(), the one taken back", x.rewind(), 0);
    }

    private static void text() {
        Check.sentence("`int text(int i)`: Byte i of THE TEXT. UNKNOWN.");
        TapeEngine x = new TapeEngine();
        Check.due("text(0), empty", x.text(0), -2);
        x.store(101, 1 << 12);
        x.order(0, Check.O, 100, false);
        x.order(1, Check.O, 101, false);
        x.order(2, Check.E, 0, false);
        x.run(3);
        Check.due("text(0)", x.text(0), 'P');
        Check.due("text(1)", x.text(1), 'Q');
        Check.due("text(2)", x.text(2), -2);
        Check.due("text(-1)", x.text(-1), -2);
        x.back();
        x.back();
        Check.due("text(1), taken back", x.text(1), -2);
        x.run(3000);
        Check.due("text(398)", x.text(398), 'P');
        Check.due("text(399)", x.text(399), 'Q');
        Check.due("text(400)", x.text(400), -2);
        x.tear();
        Check.due("text(0), torn", x.text(0), -2);
    }

    private static void tear() {
        Check.sentence("THE TEXT is empty: how many bytes it had. (LETTERS, FIGURES and the last SYMBOL stay.)");
        TapeEngine x = new TapeEngine();
        Check.due("tear(), empty", x.tear(), 0);
        Check.due("count(5)", x.count(5), -1);
        x.store(100, Check.FIGS << 12);
        x.store(101, 6 << 12);
        Check.does(x, 0, Check.O, 100, false);
        Check.due("tear(), # alone", x.tear(), 0);
        Check.due("count(4)", x.count(4), 1);
        Check.due("count(5)", x.count(5), Check.FIGS);
        Check.does(x, 0, Check.O, 101, false);
        Check.due("tear()", x.tear(), 1);
        Check.due("tear() again", x.tear(), 0);
        Check.due("count(3)", x.count(3), 0);
        Check.due("count(4), FIGURES stay", x.count(4), 1);
        Check.due("count(5), the last stays", x.count(5), 6);
        Check.does(x, 0, Check.O, 101, false);
        Check.due("text(0)", x.text(0), '6');
        x.store(100, Check.LETS << 12);
        Check.does(x, 0, Check.O, 100, false);
        x.tear();
        Check.due("count(4), LETTERS stay", x.count(4), 0);
        x.order(0, Check.O, 101, false);
        x.order(1, Check.E, 0, false);
        x.start(0);
        x.run(3000);
        Check.due("tear(), full", x.tear(), 400);
    }

    private static void load() {
        Check.sentence("`int load()`: THE LOADER: how many words it laid at PLACE.");
        String[] tapes = {"", "GK", "TPK", "A", "AK", "AQF", "AQFAWFGKTOOKAEFEPKAQF", "AQFAWFA*", "AQFAQFA"};
        int[] due = {0, 0, 0, 0, 0, 1, 3, 2, 2};
        for (int i = 0; i < tapes.length; i++) {
            TapeEngine x = new TapeEngine();
            Check.punch(x, tapes[i]);
            Check.due(tapes[i] + ", load()", x.load(), due[i]);
        }
        TapeEngine x = new TapeEngine();
        for (int i = 0; i < 100; i++) {
            // PF, five times
            x.punch(17L << 40 | 17L << 30 | 17L << 20 | 17 << 10 | 17, 10);
        }
        Check.due("load(), 500 words", x.load(), 500);
        Check.due("load(), none", x.load(), 0);
    }

    private static void loaded() {
        Check.sentence("How the latest load() ended: 0 by E and K, 1 THE TAPE ended between items, 2 in one (also behind SYMBOLS 16 alone: 1), 3 WRONG.");
        TapeEngine x = new TapeEngine();
        Check.punch(x, "EPK" + "AK" + "AQF" + "..");
        int[] due = {0, 3, 1, 1};
        for (int i = 0; i < due.length; i++) {
            x.load();
            Check.due("loaded() of the latest, " + i, x.loaded(), due[i]);
        }
        Check.punch(x, "AQF..");
        x.load();
        Check.due("loaded(), behind 16 behind an item", x.loaded(), 1);
        Check.punch(x, "..A");
        x.load();
        Check.due("loaded(), behind 16 and f", x.loaded(), 2);
        x.load();
        Check.due("loaded(), at the end", x.loaded(), 1);
        Check.punch(x, "EP");
        x.load();
        Check.due("loaded(), E without K", x.loaded(), 2);
        x.rewind();
        x.store(0, 0);
        Check.due("loaded() stays", x.loaded(), 2);
    }

    private static void noneLoaded() {
        Check.sentence("3 WRONG. NONE: there was none.");
        TapeEngine x = new TapeEngine();
        Check.due("loaded()", x.loaded(), -1);
        Check.punch(x, "EPK");
        x.run(1);
        x.image();
        Check.due("loaded(), still none", x.loaded(), -1);
        Check.due("count(8)", x.count(8), -1);
        x.load();
        x.recall();
        Check.due("loaded(), no part of the image", x.loaded(), 0);
    }

    private static void start() {
        Check.sentence("`int start(int n)`: The next ORDER is that at n: 1. UNKNOWN.");
        TapeEngine x = new TapeEngine();
        x.order(255, Check.X, 0, false);
        x.order(0, Check.Y, 0, false);
        Check.due("start(255)", x.start(255), 1);
        Check.due("count(0)", x.count(0), 255);
        Check.due("start(256)", x.start(256), -2);
        Check.due("start(-1)", x.start(-1), -2);
        Check.due("run(1)", x.run(1), 1);
        Check.due("done(X)", x.done(Check.X), 1);
        Check.due("start(0)", x.start(0), 1);
        Check.due("run(1)", x.run(1), 1);
        Check.due("done(Y)", x.done(Check.Y), 1);
    }

    private static void runMost() {
        Check.sentence("Up to so many ORDERS (0 .. 3000) are DONE: how many were.");
        TapeEngine x = new TapeEngine();
        x.order(0, Check.Y, 0, false);
        x.order(1, Check.E, 0, false);
        Check.due("run(0)", x.run(0), 0);
        Check.due("count(0)", x.count(0), 0);
        Check.due("run(1)", x.run(1), 1);
        Check.due("run(2)", x.run(2), 2);
        Check.due("run(2999)", x.run(2999), 2999);
        Check.due("run(3000)", x.run(3000), 3000);
        Check.due("done(Y)", x.done(Check.Y), 3001);
        Check.due("done(E)", x.done(Check.E), 3001);
        Check.due("run(3001)", x.run(3001), -3);
        Check.due("run(-1)", x.run(-1), -3);
        Check.due("done(Y) stays", x.done(Check.Y), 3001);
        x.store(1, 0);
        Check.due("run(3000), up to ILLEGAL", x.run(3000), 1);
    }

    private static void runToMarks() {
        Check.sentence("It ends ahead of one at a MARK, too, but not ahead of the first one. OUTSIDE.");
        TapeEngine x = new TapeEngine();
        for (int n = 0; n < 4; n++) {
            x.order(n, Check.X, 0, false);
        }
        x.order(4, Check.E, 0, false);
        x.mark(0, true);
        x.mark(1, true);
        x.mark(3, true);
        int[] due = {1, 2, 2, 1, 2, 2};
        int[] next = {1, 3, 0, 1, 3, 0};
        for (int i = 0; i < due.length; i++) {
            Check.due("run(3000), " + i, x.run(3000), due[i]);
            Check.due("count(0), " + i, x.count(0), next[i]);
            Check.due("why(), " + i, x.why(), 5);
        }
        x.mark(1, false);
        x.mark(3, false);
        Check.due("run(3000), a MARK at the first one alone", x.run(3000), 5);
        x.order(0, Check.E, 0, false);
        Check.due("run(3000), the first one once more", x.run(3000), 1);
        Check.due("why()", x.why(), 5);
        x.start(255);
        x.order(255, Check.X, 0, false);
        Check.due("run(3000), 0 behind 255", x.run(3000), 1);
    }

    private static void why() {
        Check.sentence("Why the latest run() ended: 0 so many were DONE, 1 Z, 2 ILLEGAL, 3 EMPTY, 4 FULL, 5 a MARK");
        TapeEngine x = new TapeEngine();
        x.order(0, Check.X, 0, false);
        x.order(1, Check.I, 100, false);
        x.order(2, Check.Z, 0, false);
        x.run(1);
        Check.due("why(), so many, ahead of EMPTY", x.why(), 0);
        x.run(1);
        Check.due("why(), EMPTY", x.why(), 3);
        x.run(0);
        Check.due("why(), none of none", x.why(), 0);
        x.punch(1, 1);
        x.run(1);
        Check.due("why(), so many, ahead of Z", x.why(), 0);
        x.run(1);
        Check.due("why(), Z, the last of so many, too", x.why(), 1);
        x.run(9);
        Check.due("why(), ILLEGAL", x.why(), 2);
        x.run(3001);
        Check.due("why(), refused", x.why(), 2);
        x.order(0, Check.O, 100, false);
        x.order(1, Check.E, 0, false);
        x.start(0);
        x.run(799);
        Check.due("why(), so many, the byte 400", x.why(), 0);
        x.run(2);
        Check.due("why(), FULL", x.why(), 4);
        x.mark(1, true);
        x.tear();
        x.run(2);
        Check.due("why(), a MARK", x.why(), 5);
        x.back();
        x.image();
        x.recall();
        x.start(7);
        Check.due("why(), of the latest still", x.why(), 5);
    }

    private static void whyZeroAheadOfMarks() {
        Check.sentence("5 a MARK (0 ahead of it).");
        TapeEngine x = new TapeEngine();
        for (int n = 0; n < 5; n++) {
            x.order(n, Check.X, 0, false);
        }
        x.mark(2, true);
        Check.due("run(2), so many and a MARK", x.run(2), 2);
        Check.due("why()", x.why(), 0);
        x.start(0);
        Check.due("run(3), a MARK alone", x.run(3), 2);
        Check.due("why()", x.why(), 5);
        Check.due("run(0), at a MARK", x.run(0), 0);
        Check.due("why()", x.why(), 0);
        Check.due("run(1), from a MARK", x.run(1), 1);
        Check.due("why()", x.why(), 0);
    }

    private static void noneRun() {
        Check.sentence("5 a MARK (0 ahead of it). NONE: there was none.");
        TapeEngine x = new TapeEngine();
        Check.due("why()", x.why(), -1);
        x.run(-1);
        x.run(3001);
        x.load();
        Check.due("why(), refused ones alone", x.why(), -1);
        x.run(0);
        Check.due("why(), one of none", x.why(), 0);
    }

    private static void mark() {
        Check.sentence("An address is a MARK, or not: whether it was (1, 0).");
        int[] places = {0, 255};
        for (int n : places) {
            TapeEngine x = new TapeEngine();
            Check.due("mark(" + n + ", false)", x.mark(n, false), 0);
            Check.due("mark(" + n + ", true)", x.mark(n, true), 0);
            Check.due("count(6)", x.count(6), 1);
            Check.due("mark(" + n + ", true)", x.mark(n, true), 1);
            Check.due("count(6)", x.count(6), 1);
            Check.due("mark(" + n + ", false)", x.mark(n, false), 1);
            Check.due("count(6)", x.count(6), 0);
            Check.due("mark(" + n + ", false)", x.mark(n, false), 0);
            Check.due("count(6)", x.count(6), 0);
            Check.due("mark(256, true)", x.mark(256, true), -2);
            Check.due("mark(-1, false)", x.mark(-1, false), -2);
        }
    }

    private static void markFull() {
        Check.sentence("whether it was (1, 0). UNKNOWN; FULL: 8 MARKS.");
        TapeEngine x = new TapeEngine();
        for (int n = 0; n < 8; n++) {
            Check.due("mark " + n, x.mark(n * 36, true), 0);
        }
        Check.due("count(6)", x.count(6), 8);
        Check.due("mark(1, true), a ninth", x.mark(1, true), -5);
        Check.due("mark(1, false), none of them", x.mark(1, false), 0);
        Check.due("mark(252, true), one of them", x.mark(252, true), 1);
        Check.due("count(6)", x.count(6), 8);
        Check.due("mark(252, false)", x.mark(252, false), 1);
        Check.due("mark(1, true)", x.mark(1, true), 0);
        Check.due("mark(252, true), a ninth", x.mark(252, true), -5);
        Check.due("count(6)", x.count(6), 8);
    }

    private static void back() {
        Check.sentence("The ORDER that was DONE last is taken back: how many can be yet. NOT: none.");
        TapeEngine x = new TapeEngine();
        Check.due("back(), none DONE", x.back(), -4);
        x.order(0, Check.Y, 0, false);
        x.order(1, Check.Y, 0, false);
        x.order(2, Check.Z, 0, false);
        x.start(0);
        x.run(9);
        Check.due("back(), Z", x.back(), 2);
        Check.due("count(0)", x.count(0), 2);
        Check.due("back()", x.back(), 1);
        Check.due("back(), the last", x.back(), 0);
        Check.due("back(), none left", x.back(), -4);
        Check.due("count(0) stays", x.count(0), 0);
        Check.acIs("back()", x, 0, 0);
        // an ORDER that it halted ahead of was not DONE
        x.start(9);
        x.run(9);
        Check.due("back(), ILLEGAL", x.back(), -4);
    }

    private static void done() {
        Check.sentence("How often a FUNCTION was DONE (ones taken back are not). UNKNOWN.");
        TapeEngine x = new TapeEngine();
        x.order(0, Check.Y, 0, false);
        x.order(1, Check.E, 0, false);
        x.order(2, Check.P, 0, false);
        for (int i = 0; i < 3; i++) {
            x.run(3000);
        }
        Check.due("done(Y)", x.done(Check.Y), 4500);
        Check.due("done(E)", x.done(Check.E), 4500);
        for (int left = 99; left >= 0; left--) {
            x.back();
            Check.due("done(Y), " + left, x.done(Check.Y), 4450 + left / 2 + (left % 2));
            Check.due("done(E), " + left, x.done(Check.E), 4450 + left / 2);
        }
        x.start(2);
        x.run(1);
        Check.due("done(P), ILLEGAL", x.done(Check.P), 0);
        Check.due("done(0)", x.done(0), 0);
        Check.due("done(31)", x.done(31), 0);
        Check.due("done(32)", x.done(32), -2);
        Check.due("done(-1)", x.done(-1), -2);
    }

    private static void reach() {
        Check.sentence("How many addresses are COME TO from n. UNKNOWN.");
        TapeEngine x = new TapeEngine();
        Check.due("reach(0), itself alone", x.reach(0), 1);
        Check.due("reach(255)", x.reach(255), 1);
        Check.due("reach(-1)", x.reach(-1), -2);
        Check.due("reach(256)", x.reach(256), -2);
        for (int n = 0; n < 256; n++) {
            x.order(n, Check.X, 0, false);
        }
        Check.due("reach(200), all by way of 255", x.reach(200), 256);
        x.order(199, Check.Z, 0, false);
        Check.due("reach(200), up to Z", x.reach(200), 256);
        x.order(198, Check.Z, 0, false);
        Check.due("reach(200)", x.reach(200), 255);
        Check.due("reach(199)", x.reach(199), 1);
        x.order(200, Check.E, 200, false);
        x.order(201, Check.Z, 0, false);
        Check.due("reach(200), each counts once", x.reach(200), 2);
    }

    private static void reached() {
        Check.sentence("Whether address i was COME TO at the latest reach() (1, 0; 0 without one). UNKNOWN.");
        Check.due("without one", Arrays.equals(Looks.reached(new TapeEngine()), new long[256]) ? 1 : 0, 1);
        TapeEngine x = new TapeEngine();
        Check.due("reached(256)", x.reached(256), -2);
        Check.due("reached(-1)", x.reached(-1), -2);
        x.reach(256);
        Check.due("reached(0), a refused one alone", x.reached(0), 0);
        x.order(255, Check.X, 0, false);
        x.reach(255);
        Check.due("reached(255)", x.reached(255), 1);
        Check.due("reached(0)", x.reached(0), 1);
        Check.due("reached(1)", x.reached(1), 0);
        x.store(255, 0);
        x.order(0, Check.X, 0, false);
        Check.due("reached(0), by THE STORE as it was", x.reached(0), 1);
        Check.due("reached(1), by THE STORE as it was", x.reached(1), 0);
        x.reach(7);
        Check.due("reached(0), of the latest alone", x.reached(0), 0);
        Check.due("reached(7)", x.reached(7), 1);
    }

    private static void alters() {
        Check.sentence("The least address COME TO at the latest reach() that ALTERS, by THE STORE as it is now; NONE.");
        TapeEngine x = new TapeEngine();
        x.order(0, Check.T, 0, false);
        Check.due("alters(), without reach()", x.alters(), -1);
        x.reach(256);
        Check.due("alters(), a refused one alone", x.alters(), -1);
        x.order(255, Check.T, 255, false);
        x.order(1, Check.U, 255, false);
        Check.due("reach(255)", x.reach(255), 4);
        Check.due("alters(), the least, not the first come to", x.alters(), 0);
        x.image();
        x.order(0, Check.T, 9, false);
        Check.due("alters(), the next", x.alters(), 1);
        x.order(1, Check.X, 0, false);
        Check.due("alters(), the last", x.alters(), 255);
        x.order(255, Check.X, 0, false);
        Check.due("alters(), none", x.alters(), -1);
        x.order(2, Check.F, 2, false);
        Check.due("alters(), by THE STORE as it is now", x.alters(), 2);
        x.order(3, Check.T, 2, false);
        x.order(2, Check.X, 0, false);
        Check.due("alters(), 3 was not COME TO", x.alters(), -1);
        x.order(2, Check.T, 3, false);
        Check.due("alters(), to 3, that was not COME TO", x.alters(), -1);
    }

    /** An image is kept of it, with this shift set. */
    private static TapeEngine kept(int shift) {
        TapeEngine x = new TapeEngine();
        x.storeLong(100, ALL_35 - (1L << 34));
        x.storeLong(102, (long) shift << 30);
        x.store(104, (shift == Check.FIGS ? 21 : 1) << 12);
        x.punch((4 << 10) | (5 << 5) | 6, 3);
        x.set(-77, 88);
        x.order(0, Check.H, 100, true);
        x.order(1, Check.O, 103, false);
        x.order(2, Check.O, 104, false);
        x.order(3, Check.I, 106, false);
        x.run(4);
        x.image();
        return x;
    }

    /** Changed in all that is kept, then recalled. */
    private static TapeEngine recalled(int shift) {
        TapeEngine x = kept(shift);
        x.storeLong(100, 1L << 17);
        x.storeLong(200, ALL_35);
        x.order(20, Check.O, 200, false);
        x.order(21, Check.I, 12, false);
        x.order(22, Check.H, 12, false);
        x.order(23, Check.T, 13, false);
        x.order(24, Check.O, 14, false);
        x.punch(31, 1);
        x.tear();
        x.store(14, (shift == Check.FIGS ? Check.LETS : Check.FIGS) << 12);
        x.start(20);
        x.run(5);
        x.recall();
        x.run(0);
        return x;
    }

    private static TapeEngine keptAlone(int shift) {
        TapeEngine x = kept(shift);
        // none can be taken back behind recall(), and why() is not kept: make both alike
        x.start(x.count(0));
        x.run(0);
        return x;
    }

    private static void image() {
        Check.sentence("STORE with its MIDDLE bits, AC, MULT, the next ORDER, THE TAPE and its place, THE TEXT, LETTERS or FIGURES, "
            + "the SYMBOL PRINTED last, and how often FUNCTIONS were DONE are kept (in place of what was): 1.");
        int[] shifts = {Check.LETS, Check.FIGS};
        for (int s : shifts) {
            same("words", Looks.shorts(recalled(s)), Looks.shorts(keptAlone(s)));
            same("MIDDLE bits", Looks.longs(recalled(s)), Looks.longs(keptAlone(s)));
            same("numbers", Looks.numbers(recalled(s)), Looks.numbers(keptAlone(s)));
            same("THE TEXT", Looks.bytes(recalled(s)), Looks.bytes(keptAlone(s)));
            same("THE TAPE", Looks.symbols(recalled(s)), Looks.symbols(keptAlone(s)));
        }
        TapeEngine x = new TapeEngine();
        Check.due("image(), of a new object", x.image(), 1);
        x.store(5, 6);
        Check.due("image(), in place of what was", x.image(), 1);
        x.store(5, 7);
        Check.due("recall()", x.recall(), 1);
        Check.due("word(5)", x.word(5), 6);
    }

    private static void same(String what, long[] seen, long[] due) {
        Check.due(what + " as kept", Arrays.equals(seen, due) ? 1 : 0, 1);
    }

    private static void recall() {
        Check.sentence("All that image() kept is as it was: 1. NOT: nothing was kept.");
        TapeEngine x = new TapeEngine();
        x.store(5, 6);
        Check.due("recall(), nothing was kept", x.recall(), -4);
        Check.due("word(5) stays", x.word(5), 6);
        x.image();
        for (int i = 0; i < 3; i++) {
            x.store(5, 7 + i);
            x.set(i, i);
            Check.due("recall(), as often as wanted", x.recall(), 1);
            Check.due("word(5)", x.word(5), 6);
            Check.acIs("recall()", x, 0, 0);
        }
        // what is changed behind image() or recall() does not come to what is kept
        x.mark(3, true);
        x.order(0, Check.U, 5, false);
        x.set(1L << 18, 0);
        x.run(1);
        Check.due("word(5)", x.word(5), 1);
        x.recall();
        Check.due("word(5)", x.word(5), 6);
        Check.due("done(U)", x.done(Check.U), 0);
        Check.due("count(6), MARKS are not kept", x.count(6), 1);
        Check.due("why() is not kept", x.why(), 0);
    }

    private static void counts() {
        Check.sentence("0 the address of the next ORDER, 1 SYMBOLS of THE TAPE, 2 its place, 3 bytes of THE TEXT, "
            + "4 whether FIGURES are set (1, 0), 5 the SYMBOL PRINTED last (NONE), 6 MARKS, 7 ORDERS that can be taken back, "
            + "8 PLACE, as the latest load() left it (NONE). OUTSIDE.");
        TapeEngine x = new TapeEngine();
        Check.due("count(5), none", x.count(5), -1);
        Check.due("count(8), none", x.count(8), -1);
        Check.due("count(-1)", x.count(-1), -3);
        Check.due("count(9)", x.count(9), -3);
        Check.due("count(most)", x.count(Integer.MAX_VALUE), -3);
        Check.due("count(least)", x.count(Integer.MIN_VALUE), -3);
        Check.punch(x, "TWTTKAQFEPKX");
        x.load();
        Check.due("count(8), 0 is not NONE", x.count(8), 0);
        for (int n = 4; n < 7; n++) {
            x.mark(n, true);
        }
        x.storeLong(102, 11L << 30);
        x.order(250, Check.O, 102, true);
        x.order(251, Check.O, 104, false);
        x.order(252, Check.O, 104, false);
        x.order(249, Check.X, 0, false);
        x.start(249);
        x.run(4);
        int[] due = {253, 12, 11, 2, 1, 0, 3, 4, 0};
        for (int what = 0; what < due.length; what++) {
            Check.due("count(" + what + ")", x.count(what), due[what]);
        }
    }
}
