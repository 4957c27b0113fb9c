import java.util.Arrays;
import java.util.List;
import java.util.function.Consumer;
import java.util.function.Function;

/** Each sentence of section 4 that names an edge has a test of its own here (refusals: RefusalTest). */
public final class BackEdgesTest {
    private static final long MIDDLE = 1L << 17;
    private static final List<Function<TapeEngine, long[]>> LOOKS =
        List.of(Looks::shorts, Looks::longs, Looks::numbers, Looks::bytes, Looks::symbols, Looks::backs);

    public static void main(String[] args) {
        hundred();
        lastOneFirst();
        tapeTextAndDone();
        allIsAsItWas();
        clearing();
        notClearing();
        comeTo();
        comeToFromEach();
        alters();
        Check.ending();
    }

    /** An object with the ORDERS Y X Y X .. all through THE STORE. */
    private static TapeEngine pairs() {
        TapeEngine x = new TapeEngine();
        for (int n = 0; n < 256; n++) {
            x.order(n, n % 2 == 0 ? Check.Y : Check.X, 0, false);
        }
        return x;
    }

    private static void hundred() {
        Check.sentence("4 The latest 100 ORDERS that were DONE may be taken back, last one first:");
        int[] orders = {0, 1, 99, 100, 101, 199, 200, 201, 3000};
        for (int number : orders) {
            TapeEngine x = pairs();
            Check.due("run(" + number + ")", x.run(number), number);
            int left = Math.min(number, 100);
            Check.due("count(7) behind " + number, x.count(7), left);
            for (int i = 1; i <= left; i++) {
                Check.due("back() " + i + " of " + number, x.back(), left - i);
            }
            Check.due("back(), one more, of " + number, x.back(), -4);
            Check.due("count(0)", x.count(0), (number - left) % 256);
            Check.due("done(Y)", x.done(Check.Y), (number - left + 1) / 2);
            Check.due("done(X)", x.done(Check.X), (number - left) / 2);
        }
        TapeEngine x = pairs();
        for (int i = 0; i < 101; i++) {
            x.run(1);
        }
        Check.due("count(7), by 101 run()", x.count(7), 100);
        for (int i = 0; i < 50; i++) {
            x.back();
        }
        x.run(50);
        Check.due("count(7), 50 back and 50 DONE", x.count(7), 100);
        x.back();
        x.run(2);
        Check.due("count(7), 1 back and 2 DONE", x.count(7), 100);
        Check.due("count(0)", x.count(0), 102);
    }

    private static void lastOneFirst() {
        Check.sentence("may be taken back, last one first");
        TapeEngine x = new TapeEngine();
        x.store(100, 9);
        x.order(0, Check.A, 100, false);
        x.order(1, Check.U, 101, false);
        x.order(2, Check.A, 101, false);
        x.order(3, Check.T, 101, false);
        x.run(4);
        Check.due("word(101)", x.word(101), 18);
        int[] dueWord = {9, 9, 0, 0};
        long[] dueTop = {18, 9, 9, 0};
        for (int i = 0; i < 4; i++) {
            Check.due("back()", x.back(), 3 - i);
            Check.due("count(0)", x.count(0), 3 - i);
            Check.due("word(101)", x.word(101), dueWord[i]);
            Check.due("top()", x.top(), dueTop[i] << 18);
        }
    }

    private static void tapeTextAndDone() {
        Check.sentence("all is as it was ahead of it (also THE TAPE's place, THE TEXT, how often its FUNCTION was DONE).");
        TapeEngine x = new TapeEngine();
        x.punch((7 << 5) | 8, 2);
        x.order(0, Check.I, 100, false);
        x.order(1, Check.O, 102, false);
        x.order(2, Check.O, 103, false);
        x.order(3, Check.I, 101, false);
        x.store(102, Check.FIGS << 12);
        x.store(103, 5 << 12);
        x.start(0);
        x.run(4);
        x.back();
        Check.due("count(2), I taken back", x.count(2), 1);
        Check.due("done(I)", x.done(Check.I), 1);
        Check.due("done(O)", x.done(Check.O), 2);
        Check.due("word(101)", x.word(101), 0);
        x.back();
        Check.due("count(3), O taken back", x.count(3), 0);
        Check.due("text(0)", x.text(0), -2);
        Check.due("count(5)", x.count(5), Check.FIGS);
        Check.due("done(O)", x.done(Check.O), 1);
        x.back();
        Check.due("count(4), # taken back", x.count(4), 0);
        Check.due("count(5)", x.count(5), -1);
        Check.due("done(O)", x.done(Check.O), 0);
        x.back();
        Check.due("count(2), both taken back", x.count(2), 0);
        Check.due("count(1) stays", x.count(1), 2);
        Check.due("run(4), all once more", x.run(4), 4);
        Check.due("word(100)", x.word(100), 7);
        Check.due("word(101)", x.word(101), 8);
        Check.due("text(0)", x.text(0), '5');
        Check.due("done(I)", x.done(Check.I), 2);
    }

    /** Each FUNCTION on each LENGTH, where it writes over all that it can. */
    private static void allIsAsItWas() {
        Check.sentence("last one first: all is as it was ahead of it");
        String legal = "ASHVNTUCRLEGIOFXYZ";
        for (int i = 0; i < legal.length(); i++) {
            for (int variant = 0; variant < 8; variant++) {
                int f = Check.LETTERS.indexOf(legal.charAt(i));
                String told = legal.charAt(i) + ", variant " + variant;
                Check.due(told + ", run(1)", aheadOf(f, variant).run(1), 1);
                for (Function<TapeEngine, long[]> look : LOOKS) {
                    long[] before = look.apply(aheadOf(f, variant));
                    long[] behind = look.apply(tookBack(f, variant));
                    Check.due(told + ", look " + LOOKS.indexOf(look), Arrays.equals(before, behind) ? 1 : 0, 1);
                }
            }
        }
    }

    private static TapeEngine aheadOf(int f, int variant) {
        TapeEngine x = new TapeEngine();
        x.storeLong(100, 0x5_5555_5555L);
        x.storeLong(102, (17L << 30) | MIDDLE | (11 << 12) | 3);
        x.storeLong(20, 7L << 30);
        x.set(-77777, 99);
        x.punch((21 << 5) | 22, 2);
        x.order(0, Check.H, 100, true);
        x.order(1, Check.O, 20, true);
        x.order(2, Check.I, 24, false);
        // at 3 the ORDER may write over itself, at 2 over the one ahead
        int[] addresses = {102, 103, 3, 2};
        x.order(3, f, addresses[variant / 2], variant % 2 == 1);
        x.start(0);
        x.run(3);
        return x;
    }

    private static TapeEngine tookBack(int f, int variant) {
        TapeEngine x = aheadOf(f, variant);
        x.run(1);
        x.back();
        // why() is of the latest run() still, so both have one that ended alike
        x.run(0);
        return x;
    }

    private static void clears(String call, boolean isDue, Consumer<TapeEngine> doing) {
        TapeEngine x = new TapeEngine();
        x.order(30, Check.X, 0, false);
        x.order(31, Check.Y, 0, false);
        x.image();
        x.start(30);
        x.run(2);
        doing.accept(x);
        Check.due(call + ", count(7)", x.count(7), isDue ? 0 : 2);
        Check.due(call + ", back()", x.back(), isDue ? -4 : 1);
    }

    private static void clearing() {
        Check.sentence("Behind store(), storeLong(), order(), set(), punch(), rewind(), tear(), load(), "
            + "start(), recall() that were not refused none can be taken back.");
        // also those that leave all as it is
        clears("store()", true, x -> x.store(0, 0));
        clears("storeLong()", true, x -> x.storeLong(0, 0));
        clears("order()", true, x -> x.order(0, 0, 0, false));
        clears("set()", true, x -> x.set(x.top(), x.rest()));
        clears("punch()", true, x -> x.punch(0, 1));
        clears("rewind()", true, x -> x.rewind());
        clears("tear()", true, x -> x.tear());
        clears("load()", true, x -> x.load());
        clears("start()", true, x -> x.start(x.count(0)));
        clears("recall()", true, x -> x.recall());
        TapeEngine x = new TapeEngine();
        x.order(5, Check.X, 0, false);
        Check.does(x, 5, Check.X, 0, false);
        x.tear();
        x.run(0);
        Check.due("back(), the ones ahead stay gone", x.back(), -4);
        x.start(5);
        x.run(1);
        Check.due("back(), one DONE behind it", x.back(), 0);
        Check.due("done(X)", x.done(Check.X), 1);
    }

    private static void notClearing() {
        Check.sentence("recall() that were not refused none can be taken back.");
        clears("store(), refused", false, x -> x.store(0, -1));
        clears("store(), refused", false, x -> x.store(256, 0));
        clears("storeLong(), refused", false, x -> x.storeLong(0, -1));
        clears("storeLong(), refused", false, x -> x.storeLong(-1, 0));
        clears("order(), refused", false, x -> x.order(0, 0, 1024, false));
        clears("order(), refused", false, x -> x.order(0, 32, 0, false));
        clears("set(), refused", false, x -> x.set(0, -1));
        clears("set(), refused", false, x -> x.set(1L << 34, 0));
        clears("punch(), refused", false, x -> x.punch(0, 13));
        clears("start(), refused", false, x -> x.start(256));
        clears("run()", false, x -> x.run(0));
        clears("run(), refused", false, x -> x.run(3001));
        clears("mark()", false, x -> x.mark(30, true));
        clears("mark()", false, x -> x.mark(30, false));
        clears("reach()", false, x -> x.reach(30));
        clears("image()", false, x -> x.image());
        clears("asking", false, x -> Looks.numbers(x));
        clears("asking", false, x -> Looks.longs(x));
        TapeEngine x = new TapeEngine();
        Check.does(x, 0, Check.X, 0, false);
        x.recall();
        Check.due("recall(), refused, back()", x.back(), 0);
        for (int i = 0; i < 1000; i += 10) {
            x.punch(0, 10);
        }
        Check.does(x, 0, Check.X, 0, false);
        x.punch(0, 1);
        Check.due("punch(), FULL, back()", x.back(), 0);
    }

    private static void comeTo() {
        Check.sentence("COME TO from n are addresses: n; from one whose word has FUNCTION E or G that behind it and its ADDRESS;");
        TapeEngine x = new TapeEngine();
        x.order(255, Check.E, 1023, true);
        Check.due("reach(255), E to itself; 0 behind 255", x.reach(255), 2);
        Check.due("reached(255)", x.reached(255), 1);
        Check.due("reached(0)", x.reached(0), 1);
        x.order(255, Check.G, 256 + 9, false);
        Check.due("reach(255), G to 9 of ten bits", x.reach(255), 3);
        Check.due("reached(9)", x.reached(9), 1);
        x.order(9, Check.E, 255, false);
        Check.due("reach(9), round and round", x.reach(9), 4);
        Check.due("reach(0)", x.reach(0), 1);
        for (int n = 0; n < 256; n++) {
            x.order(n, Check.G, n, false);
        }
        Check.due("reach(77), all", x.reach(77), 256);
        x = new TapeEngine();
        for (int n = 0; n < 256; n += 4) {
            // from 252 down to 0, and what is behind each
            x.order(n, Check.E, n - 4 & 255, false);
        }
        x.order(0, Check.Z, 0, false);
        Check.due("reach(252), by a long way", x.reach(252), 64 + 63);
        Check.due("reached(0)", x.reached(0), 1);
        Check.due("reached(1)", x.reached(1), 0);
    }

    private static void comeToFromEach() {
        Check.sentence("Z, or one that is ILLEGAL: none; else that behind it.");
        String goesOn = "ASHVNTUCRLIOFXY";
        for (int f = 0; f < 32; f++) {
            char letter = Check.LETTERS.charAt(f);
            int[] places = {7, 255};
            for (int n : places) {
                TapeEngine x = new TapeEngine();
                x.order(n, f, 100, false);
                boolean jumps = letter == 'E' || letter == 'G';
                boolean behind = jumps || goesOn.indexOf(letter) >= 0;
                Check.due(letter + " at " + n, x.reach(n), jumps ? 3 : behind ? 2 : 1);
                Check.due(letter + ", itself", x.reached(n), 1);
                Check.due(letter + ", behind it", x.reached(n + 1 & 255), behind ? 1 : 0);
                Check.due(letter + ", its ADDRESS", x.reached(100), jumps ? 1 : 0);
            }
        }
    }

    private static void alters() {
        Check.sentence("It ALTERS, if its FUNCTION is T, U, I or F, and a SHORT word that it writes (of LONG both) is COME TO.");
        for (int f = 0; f < 32; f++) {
            char letter = Check.LETTERS.charAt(f);
            for (int a = 2; a < 10; a++) {
                for (int length = 0; length < 2; length++) {
                    TapeEngine x = new TapeEngine();
                    x.order(4, Check.X, 0, false);
                    x.order(5, f, 256 + a, length == 1);
                    x.order(6, Check.Z, 0, false);
                    x.reach(4);
                    // 4, 5 and 6 are COME TO; a LONG one at 7 writes 6, too
                    boolean hits = a >= 4 && a <= (length == 1 ? 7 : 6);
                    boolean isDue = "TUIF".indexOf(letter) >= 0 && hits;
                    Check.due(letter + " " + a + ", LENGTH " + length, x.alters(), isDue ? 5 : -1);
                }
            }
        }
        TapeEngine x = new TapeEngine();
        x.order(5, Check.F, 4, true);
        x.reach(5);
        Check.due("F 4 LONG writes 5, too", x.alters(), 5);
        x.order(5, Check.F, 4, false);
        Check.due("F 4 SHORT", x.alters(), -1);
        x.order(5, Check.T, 7, true);
        x.reach(5);
        Check.due("T 7 LONG writes 6, too", x.alters(), 5);
        x.order(5, Check.T, 7, false);
        Check.due("T 7 SHORT", x.alters(), -1);
        x.order(5, Check.T, 8, true);
        Check.due("T 8 LONG", x.alters(), -1);
        x.store(255, (Check.I << 12) | 1);
        x.reach(255);
        Check.due("I 0 LONG writes 0, which is behind 255", x.alters(), 255);
    }
}
