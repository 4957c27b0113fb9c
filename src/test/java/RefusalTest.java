import java.util.function.Supplier;
import java.util.function.ToLongFunction;

/** Each call that can be refused: its answer, and that nothing changes behind it. */
public final class RefusalTest {
    private static final long ALL_35 = (1L << 35) - 1;
    private static final long LEAST = Long.MIN_VALUE;
    private static final int[] NO_ADDRESSES = {-1, 256, 257, 512, Integer.MAX_VALUE, Integer.MIN_VALUE};

    public static void main(String[] args) {
        unknownAddresses();
        unknownSymbols();
        unknownBytes();
        outside();
        notNow();
        full();
        theFirstThatFits();
        latestOnesStay();
        Check.ending();
    }

    /** An object that has something of everything: an image, MARKS, ORDERS to be taken back. */
    private static TapeEngine used() {
        TapeEngine x = new TapeEngine();
        Check.punch(x, "TQWPKAQFTPDGKX");
        x.load();
        x.storeLong(0, ALL_35);
        x.storeLong(254, ALL_35);
        x.storeLong(100, ALL_35 - 12345);
        x.storeLong(102, (11L << 30) | 77);
        x.store(104, 28 << 12);
        x.set(-5, 6);
        x.image();
        x.punch((7L << 10) | (8 << 5) | 9, 3);
        program(x);
        x.run(7);
        x.image();
        x.run(9);
        x.mark(2, true);
        x.mark(8, true);
        x.mark(250, true);
        x.reach(60);
        return x;
    }

    private static void program(TapeEngine x) {
        x.order(0, Check.H, 100, true);
        x.order(1, Check.O, 102, true);
        x.order(2, Check.I, 100, false);
        x.order(3, Check.O, 104, false);
        x.order(4, Check.V, 102, true);
        x.order(5, Check.U, 106, true);
        x.order(6, Check.F, 107, false);
        x.order(7, Check.I, 101, true);
        x.order(8, Check.T, 108, false);
        x.order(9, Check.G, 5, false);
        x.order(10, Check.Y, 0, false);
        x.order(11, Check.L, 9, false);
        x.order(12, Check.Z, 0, false);
        x.order(60, Check.U, 61, false);
        x.start(0);
    }

    private static TapeEngine withFullTape() {
        TapeEngine x = new TapeEngine();
        x.order(0, Check.I, 100, true);
        for (int i = 0; i < 83; i++) {
            x.punch(0x123456789ABCDEFL * (i + 1), 12);
        }
        x.run(1);
        return x;
    }

    private static TapeEngine withEightMarks() {
        TapeEngine x = new TapeEngine();
        for (int i = 0; i < 8; i++) {
            x.mark(i * 31 + 3, true);
        }
        x.order(0, Check.Y, 0, false);
        x.run(1);
        return x;
    }

    /** The call answers as told, and nothing changes behind it. */
    private static void refused(String call, Supplier<TapeEngine> object, long due, ToLongFunction<TapeEngine> doing) {
        Check.due(call, doing.applyAsLong(object.get()), due);
        Looks.nothingChanges(call, object, doing::applyAsLong);
    }

    private static void unknown(String call, ToLongFunction<TapeEngine> doing) {
        refused(call, RefusalTest::used, -2, doing);
    }

    private static void outside(String call, ToLongFunction<TapeEngine> doing) {
        refused(call, RefusalTest::used, -3, doing);
    }

    private static void unknownAddresses() {
        Check.sentence("Refused, and nothing changes: UNKNOWN (an address not 0 .. 255");
        for (int n : NO_ADDRESSES) {
            unknown("store(" + n + ", 1)", x -> x.store(n, 1));
            unknown("storeLong(" + n + ", 1)", x -> x.storeLong(n, 1));
            unknown("word(" + n + ")", x -> x.word(n));
            refused("wordLong(" + n + ")", RefusalTest::used, LEAST, x -> x.wordLong(n));
            unknown("order(" + n + ", 1, 1, true)", x -> x.order(n, 1, 1, true));
            unknown("start(" + n + ")", x -> x.start(n));
            unknown("mark(" + n + ", true)", x -> x.mark(n, true));
            unknown("mark(" + n + ", false)", x -> x.mark(n, false));
            unknown("reach(" + n + ")", x -> x.reach(n));
            unknown("reached(" + n + ")", x -> x.reached(n));
        }
    }

    private static void unknownSymbols() {
        Check.sentence("no such SYMBOL, byte)");
        int[] noSymbols = {-1, 32, 33, Integer.MAX_VALUE, Integer.MIN_VALUE};
        for (int f : noSymbols) {
            unknown("order(0, " + f + ", 0, false)", x -> x.order(0, f, 0, false));
            unknown("done(" + f + ")", x -> x.done(f));
        }
    }

    private static void unknownBytes() {
        Check.sentence("no such SYMBOL, byte), OUTSIDE");
        int[] noBytes = {-1, 2, 3, 399, 400, Integer.MAX_VALUE, Integer.MIN_VALUE};
        Check.due("count(3)", used().count(3), 1);
        for (int i : noBytes) {
            unknown("text(" + i + ")", x -> x.text(i));
        }
        unknown("text(1), behind the last", x -> x.text(1));
        refused("text(0), none", TapeEngine::new, -2, x -> x.text(0));
    }

    private static void outside() {
        Check.sentence("OUTSIDE (another number is not as told)");
        outside("store(5, -1)", x -> x.store(5, -1));
        outside("store(5, 131072)", x -> x.store(5, 131072));
        outside("store(5, least)", x -> x.store(5, Integer.MIN_VALUE));
        outside("storeLong(5, -1)", x -> x.storeLong(5, -1));
        outside("storeLong(5, 2^35)", x -> x.storeLong(5, 1L << 35));
        outside("storeLong(5, least)", x -> x.storeLong(5, LEAST));
        outside("order(5, 1, -1, true)", x -> x.order(5, 1, -1, true));
        outside("order(5, 1, 1024, true)", x -> x.order(5, 1, 1024, true));
        outside("set(-2^34 - 1, 0)", x -> x.set(-(1L << 34) - 1, 0));
        outside("set(2^34, 0)", x -> x.set(1L << 34, 0));
        outside("set(0, -1)", x -> x.set(0, -1));
        outside("set(0, 2^36)", x -> x.set(0, 1L << 36));
        outside("punch(1, 0)", x -> x.punch(1, 0));
        outside("punch(1, 13)", x -> x.punch(1, 13));
        outside("punch(1, -1)", x -> x.punch(1, -1));
        outside("run(-1)", x -> x.run(-1));
        outside("run(3001)", x -> x.run(3001));
        outside("run(least)", x -> x.run(Integer.MIN_VALUE));
        outside("count(-1)", x -> x.count(-1));
        outside("count(9)", x -> x.count(9));
    }

    private static void notNow() {
        Check.sentence("NOT (not now)");
        refused("back(), a new object", TapeEngine::new, -4, TapeEngine::back);
        refused("recall(), a new object", TapeEngine::new, -4, TapeEngine::recall);
        refused("back(), none is left", RefusalTest::tornOff, -4, TapeEngine::back);
        refused("recall(), nothing was kept", RefusalTest::withEightMarks, -4, TapeEngine::recall);
    }

    private static TapeEngine tornOff() {
        TapeEngine x = used();
        x.tear();
        return x;
    }

    private static void full() {
        Check.sentence("FULL: the first of these that fits.");
        Check.due("count(1)", withFullTape().count(1), 996);
        refused("punch(1, 5)", RefusalTest::withFullTape, -5, x -> x.punch(1, 5));
        refused("punch(1, 12)", RefusalTest::withFullTape, -5, x -> x.punch(1, 12));
        Check.due("punch(1, 4)", withFullTape().punch(1, 4), 1000);
        refused("mark(0, true)", RefusalTest::withEightMarks, -5, x -> x.mark(0, true));
        refused("mark(255, true)", RefusalTest::withEightMarks, -5, x -> x.mark(255, true));
    }

    private static void theFirstThatFits() {
        Check.sentence("Refused, and nothing changes: UNKNOWN (an address not 0 .. 255, no such SYMBOL, byte), "
            + "OUTSIDE (another number is not as told), NOT (not now), FULL: the first of these that fits.");
        unknown("store(256, 131072)", x -> x.store(256, 131072));
        unknown("store(-1, -1)", x -> x.store(-1, -1));
        unknown("storeLong(256, 2^35)", x -> x.storeLong(256, 1L << 35));
        unknown("storeLong(-1, -1)", x -> x.storeLong(-1, -1));
        unknown("order(256, 1, 1024, true)", x -> x.order(256, 1, 1024, true));
        unknown("order(1, 32, 1024, true)", x -> x.order(1, 32, 1024, true));
        unknown("order(1, -1, -1, true)", x -> x.order(1, -1, -1, true));
        refused("punch(1, 13), FULL, too", RefusalTest::withFullTape, -3, x -> x.punch(1, 13));
        refused("punch(1, 0)", RefusalTest::withFullTape, -3, x -> x.punch(1, 0));
        refused("mark(256, true), FULL, too", RefusalTest::withEightMarks, -2, x -> x.mark(256, true));
        refused("mark(-1, true)", RefusalTest::withEightMarks, -2, x -> x.mark(-1, true));
    }

    private static void latestOnesStay() {
        Check.sentence("Refused, and nothing changes");
        TapeEngine x = used();
        Check.due("why()", x.why(), 1);
        x.run(3001);
        Check.due("why() behind a refused run()", x.why(), 1);
        Check.due("alters()", x.alters(), 60);
        x.reach(256);
        Check.due("alters() behind a refused reach()", x.alters(), 60);
        Check.due("reached(61) behind a refused reach()", x.reached(61), 1);
        int left = x.count(7);
        x.store(256, 0);
        x.store(0, 131072);
        Check.due("back() behind refusals", x.back(), left - 1);
    }
}
