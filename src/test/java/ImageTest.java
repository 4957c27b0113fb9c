/** Promises 26 to 28: image, recall, count. */
public final class ImageTest {
    public static void main(String[] args) {
        image();
        allIsKept();
        imageAgain();
        recall();
        notKept();
        count();
        Check.ending();
    }

    private static TapeEngine used() {
        TapeEngine x = new TapeEngine();
        x.storeLong(100, (1L << 35) - 1);
        x.storeLong(102, 11L << 30);
        x.storeLong(104, 28L << 30);
        x.punch((4 << 10) | (5 << 5) | 6, 3);
        x.set(-77, 88);
        x.order(0, Check.H, 101, true);
        x.order(1, Check.O, 103, false);
        x.order(2, Check.O, 105, false);
        x.order(3, Check.I, 106, false);
        x.order(4, Check.Z, 0, false);
        x.run(9);
        return x;
    }

    private static void spoil(TapeEngine x) {
        x.storeLong(100, 0);
        x.storeLong(200, (1L << 35) - 1);
        x.punch(31, 1);
        x.store(102, Check.LETS << 12);
        x.order(10, Check.I, 30, false);
        x.order(11, Check.O, 102, false);
        x.order(12, Check.O, 105, false);
        x.order(13, Check.O, 201, false);
        x.order(14, Check.H, 50, false);
        x.order(15, Check.T, 50, true);
        x.start(10);
        x.run(6);
        x.tear();
        x.run(0);
    }

    private static void image() {
        Check.promise(26);
        TapeEngine x = used();
        Check.due("image()", x.image(), 1);
        Check.due("count(7), image() takes nothing", x.count(7), 5);
        spoil(x);
        Check.due("recall()", x.recall(), 1);
        Check.due("wordLong(100)", x.wordLong(100), -1);
        Check.due("multiplier()", x.multiplier(), -1);
        Check.due("text(0)", x.text(0), '-');
        Check.due("text(1)", x.text(1), -2);
        Check.due("count(4)", x.count(4), 1);
        Check.due("count(5)", x.count(5), 28);
        Check.due("the tape goes on", Check.does(x, 9, Check.I, 30, false), 1);
        Check.due("word(30)", x.word(30), 5);
        Check.due("and on", Check.does(x, 9, Check.I, 30, false), 1);
        Check.due("word(30)", x.word(30), 6);
        Check.due("and ends", Check.does(x, 9, Check.I, 30, false), 0);
        // kept once, recalled as often as wanted
        spoil(x);
        spoil(x);
        Check.due("recall()", x.recall(), 1);
        x.punch(9, 1);
        x.rewind();
        long[] due = {4, 5, 6, 9};
        for (long symbol : due) {
            Check.does(x, 9, Check.I, 30, false);
            Check.due("symbol", x.word(30), symbol);
        }
    }

    private static void allIsKept() {
        Check.promise(26);
        Looks.areNotSame("spoilt", () -> keptAndSpoilt(1), ImageTest::kept);
        for (int times = 0; times < 3; times++) {
            int spoilt = times;
            Looks.areSame("recall(), " + times + " times spoilt", () -> {
                TapeEngine x = keptAndSpoilt(spoilt);
                x.recall();
                return x;
            }, ImageTest::kept);
        }
    }

    /** One of which image() has kept all, with no ORDER that can be taken back. */
    private static TapeEngine kept() {
        TapeEngine x = used();
        x.start(x.count(0));
        x.run(0);
        x.image();
        return x;
    }

    private static TapeEngine keptAndSpoilt(int times) {
        TapeEngine x = kept();
        for (int i = 0; i < times; i++) {
            spoil(x);
        }
        return x;
    }

    private static void imageAgain() {
        Check.promise(26);
        TapeEngine x = new TapeEngine();
        x.image();
        x.store(5, 6);
        Check.due("image(), in place of what was", x.image(), 1);
        x.store(5, 7);
        x.recall();
        Check.due("word(5)", x.word(5), 6);
    }

    private static void recall() {
        Check.promise(27);
        TapeEngine x = used();
        long state = Check.state(x);
        Check.due("recall(), nothing was kept", x.recall(), -4);
        Check.due("state", Check.state(x), state);
        Check.due("count(7) behind a refusal", x.count(7), 5);
        x.image();
        Check.due("recall()", x.recall(), 1);
        Check.due("count(7)", x.count(7), 0);
        Check.due("back()", x.back(), -4);
        Check.due("done(O)", x.done(Check.O), 2);
        Check.does(x, 9, Check.Y, 0, false);
        x.recall();
        Check.due("done(Y)", x.done(Check.Y), 0);
        Check.due("count(0)", x.count(0), 5);
        Check.acIs("recall()", x, -77, 88);
    }

    /** MARKS, and the latest load(), run() and reach(), are not kept. */
    private static void notKept() {
        Check.promise(27);
        TapeEngine x = new TapeEngine();
        x.mark(9, true);
        x.image();
        x.mark(10, true);
        x.mark(9, false);
        x.mark(11, true);
        x.run(1);
        x.reach(3);
        Check.punch(x, "XF");
        x.load();
        x.recall();
        Check.due("count(6)", x.count(6), 2);
        Check.due("mark(9, true)", x.mark(9, true), 0);
        Check.due("why()", x.why(), 2);
        Check.due("loaded()", x.loaded(), 1);
        Check.due("count(8)", x.count(8), 65);
        Check.due("reached(3)", x.reached(3), 1);
        Check.due("count(1)", x.count(1), 0);
        Check.due("word(43)", x.word(43), 0);
    }

    private static void count() {
        Check.promise(28);
        TapeEngine x = used();
        long[] due = {5, 3, 1, 1, 1, 28, 0, 5, -1};
        for (int what = 0; what < due.length; what++) {
            Check.due("count(" + what + ")", x.count(what), due[what]);
        }
        Check.due("count(-1)", x.count(-1), -3);
        Check.due("count(9)", x.count(9), -3);
        Check.due("count(least)", x.count(Integer.MIN_VALUE), -3);
        x.mark(200, true);
        Check.due("count(6)", x.count(6), 1);
        x.load();
        Check.due("count(8)", x.count(8), 64);
        Check.due("count(2), behind load()", x.count(2), 3);
    }
}
