/** Promises 17 to 22: start, run, why, mark, back, done. */
public final class RunningTest {
    private static final int[] LEGAL = {Check.A, Check.S, Check.H, Check.V, Check.N, Check.T, Check.U,
        Check.C, Check.R, Check.L, Check.E, Check.G, Check.I, Check.O, Check.F, Check.X, Check.Y, Check.Z};

    public static void main(String[] args) {
        start();
        run();
        jumps();
        functions();
        why();
        mark();
        eightMarks();
        back();
        backBehindMany();
        backFromAll();
        backFromTapeAndShifts();
        notBack();
        done();
        Check.ending();
    }

    private static void start() {
        Check.promise(17);
        TapeEngine x = new TapeEngine();
        Check.due("start(255)", x.start(255), 1);
        Check.due("count(0)", x.count(0), 255);
        Check.due("start(256)", x.start(256), -2);
        Check.due("start(-1)", x.start(-1), -2);
        Check.due("count(0) stays", x.count(0), 255);
        Check.does(x, 20, Check.X, 0, false);
        x.start(256);
        Check.due("count(7) behind a refusal", x.count(7), 1);
        Check.due("start(0)", x.start(0), 1);
        Check.due("count(7)", x.count(7), 0);
        Check.due("count(0)", x.count(0), 0);
    }

    private static void run() {
        Check.promise(18);
        TapeEngine x = new TapeEngine();
        for (int n = 0; n < 256; n++) {
            x.order(n, Check.X, n, (n & 1) == 1);
        }
        Check.due("run(-1)", x.run(-1), -3);
        Check.due("run(3001)", x.run(3001), -3);
        Check.due("why(), refused alone", x.why(), -1);
        Check.due("run(0)", x.run(0), 0);
        Check.due("run(255)", x.run(255), 255);
        Check.due("count(0)", x.count(0), 255);
        Check.due("run(2)", x.run(2), 2);
        Check.due("count(0), 0 behind 255", x.count(0), 1);
        Check.due("run(3000)", x.run(3000), 3000);
        Check.due("count(0)", x.count(0), 3001 % 256);
        x.order(3001 % 256, Check.Z, 0, false);
        Check.due("run(3000), Z", x.run(3000), 1);
        Check.due("count(0), behind Z", x.count(0), 3002 % 256);
        Check.due("run(-1)", x.run(-1), -3);
        Check.due("why() stays", x.why(), 1);
    }

    private static void jumps() {
        Check.promise(18);
        long[][] cases = {{0, 0, 1}, {0, 5, 1}, {-1, (1L << 36) - 1, 0}, {1, 0, 1}, {-(1L << 34), 0, 0}};
        for (long[] c : cases) {
            TapeEngine x = new TapeEngine();
            x.set(c[0], c[1]);
            Check.does(x, 30, Check.E, 512 + 99, true);
            Check.due("E, AC " + c[0], x.count(0), c[2] == 1 ? 99 : 31);
            Check.does(x, 255, Check.G, 99, false);
            Check.due("G, AC " + c[0], x.count(0), c[2] == 1 ? 0 : 99);
            Check.acIs("E and G", x, c[0], c[1]);
        }
        TapeEngine x = new TapeEngine();
        // an ORDER that writes over itself goes on behind it
        x.set(Check.Z << 30, 0);
        Check.due("run(1)", Check.does(x, 4, Check.T, 4, false), 1);
        Check.due("count(0)", x.count(0), 5);
        Check.due("done(T)", x.done(Check.T), 1);
    }

    private static void functions() {
        Check.promise(19);
        for (int f = 0; f < 32; f++) {
            TapeEngine x = new TapeEngine();
            x.punch(1, 1);
            boolean isLegal = false;
            for (int legal : LEGAL) {
                isLegal = isLegal || legal == f;
            }
            Check.due("FUNCTION " + f, Check.does(x, 7, f, 100, false), isLegal ? 1 : 0);
            Check.due("why()", x.why(), !isLegal ? 2 : f == Check.Z ? 1 : 0);
            Check.due("done(" + f + ")", x.done(f), isLegal ? 1 : 0);
            Check.due("count(7)", x.count(7), isLegal ? 1 : 0);
            boolean goesOn = isLegal && f != Check.E;
            Check.due("count(0)", x.count(0), goesOn ? 8 : isLegal ? 100 : 7);
        }
    }

    private static void why() {
        Check.promise(19);
        TapeEngine x = new TapeEngine();
        Check.due("why()", x.why(), -1);
        Check.due("run(0), 0 also ahead of one that is ILLEGAL", x.run(0), 0);
        Check.due("why()", x.why(), 0);
        Check.due("run(1)", x.run(1), 0);
        Check.due("why(), ILLEGAL", x.why(), 2);
        x.order(0, Check.X, 0, false);
        x.order(1, Check.I, 50, true);
        Check.due("run(1)", x.run(1), 1);
        Check.due("why(), so many ahead of EMPTY", x.why(), 0);
        long state = Check.state(x);
        Check.due("run(5)", x.run(5), 0);
        Check.due("why(), EMPTY", x.why(), 3);
        x.run(0);
        Check.due("EMPTY changes nothing", Check.state(x), state);
        x.punch(3, 1);
        x.order(2, Check.Z, 0, false);
        Check.due("run(5)", x.run(5), 2);
        Check.due("why(), Z", x.why(), 1);
        Check.due("count(0), behind Z", x.count(0), 3);
        x.back();
        Check.due("why() stays behind back()", x.why(), 1);
        Check.due("run(1), Z as the last of so many", x.run(1), 1);
        Check.due("why()", x.why(), 1);
        x.start(0);
        x.store(0, 0);
        Check.due("why() stays", x.why(), 1);
    }

    private static void mark() {
        Check.promise(20);
        TapeEngine x = new TapeEngine();
        for (int n = 0; n < 8; n++) {
            x.order(n, Check.X, 0, false);
        }
        x.order(8, Check.E, 0, false);
        Check.due("mark(3, true)", x.mark(3, true), 0);
        Check.due("mark(3, true)", x.mark(3, true), 1);
        Check.due("count(6)", x.count(6), 1);
        Check.due("run(9)", x.run(9), 3);
        Check.due("why(), a MARK", x.why(), 5);
        Check.due("count(0), ahead of it", x.count(0), 3);
        Check.due("run(9), not ahead of the first", x.run(9), 9);
        Check.due("why(), 0 ahead of 5", x.why(), 0);
        Check.due("count(0), at the MARK", x.count(0), 3);
        Check.due("run(20)", x.run(20), 9);
        Check.due("why()", x.why(), 5);
        x.order(3, Check.Z, 0, false);
        x.mark(4, true);
        Check.due("run(20), Z ahead of a MARK", x.run(20), 1);
        Check.due("why()", x.why(), 1);
        x.store(3, 0);
        x.start(2);
        Check.due("run(20), a MARK at one that is ILLEGAL", x.run(20), 1);
        Check.due("why()", x.why(), 5);
        Check.due("run(20)", x.run(20), 0);
        Check.due("why()", x.why(), 2);
        Check.due("mark(3, false)", x.mark(3, false), 1);
        Check.due("mark(3, false)", x.mark(3, false), 0);
        Check.due("mark(-1, true)", x.mark(-1, true), -2);
        Check.due("mark(256, false)", x.mark(256, false), -2);
        Check.due("count(6)", x.count(6), 1);
    }

    private static void eightMarks() {
        Check.promise(20);
        TapeEngine x = new TapeEngine();
        for (int n = 0; n < 8; n++) {
            Check.due("mark", x.mark(255 - n, true), 0);
        }
        Check.due("count(6)", x.count(6), 8);
        Check.due("mark(0, true), a ninth", x.mark(0, true), -5);
        Check.due("mark(256, true), UNKNOWN first", x.mark(256, true), -2);
        Check.due("mark(255, true), one of the eight", x.mark(255, true), 1);
        Check.due("mark(0, false)", x.mark(0, false), 0);
        Check.due("mark(255, false)", x.mark(255, false), 1);
        Check.due("count(6)", x.count(6), 7);
        Check.due("mark(0, true)", x.mark(0, true), 0);
        Check.due("count(6)", x.count(6), 8);
        Check.does(x, 20, Check.X, 0, false);
        x.mark(0, false);
        Check.due("count(7), a MARK takes nothing", x.count(7), 1);
        x.back();
        Check.due("count(6), MARKS stay behind back()", x.count(6), 7);
    }

    private static void back() {
        Check.promise(21);
        TapeEngine x = new TapeEngine();
        Check.due("back()", x.back(), -4);
        for (int n = 0; n < 130; n++) {
            x.order(n, Check.Y, 0, false);
        }
        x.run(60);
        x.run(70);
        Check.due("count(7)", x.count(7), 100);
        Check.due("done(Y)", x.done(Check.Y), 130);
        for (int left = 99; left >= 0; left--) {
            Check.due("back()", x.back(), left);
            Check.due("count(0)", x.count(0), 30 + left);
            // one of these a step, as an object has no more than 512 calls
            if (left % 3 == 0) {
                Check.due("count(7)", x.count(7), left);
            } else if (left % 3 == 1) {
                Check.due("done(Y)", x.done(Check.Y), 30 + left);
            } else {
                Check.acIs("back()", x, (30 + left) / 2, (30 + left) % 2 * (1L << 35));
            }
        }
        Check.due("back(), none", x.back(), -4);
        Check.due("count(0) stays", x.count(0), 30);
        Check.due("run(5)", x.run(5), 5);
        Check.due("back()", x.back(), 4);
        Check.due("run(1)", x.run(1), 1);
        Check.due("back()", x.back(), 4);
        Check.due("run(100), ILLEGAL at 130", x.run(100), 96);
        Check.due("count(7)", x.count(7), 100);
    }

    private static void backBehindMany() {
        Check.promise(21);
        TapeEngine x = new TapeEngine();
        x.order(0, Check.Y, 0, false);
        x.order(1, Check.E, 0, false);
        x.run(3000);
        Check.due("count(7)", x.count(7), 100);
        for (int left = 99; left >= 0; left--) {
            Check.due("back()", x.back(), left);
        }
        Check.due("done(Y)", x.done(Check.Y), 1450);
        Check.acIs("1450 times Y", x, 725, 0);
        x.run(200);
        Check.due("count(7)", x.count(7), 100);
    }

    /** Takes back an ORDER of each FUNCTION, on both lengths, and compares all that can be asked. */
    private static void backFromAll() {
        Check.promise(21);
        for (int f : LEGAL) {
            for (boolean isLong : new boolean[] {false, true}) {
                String call = "FUNCTION " + f + (isLong ? ", LONG" : ", SHORT");
                Looks.areNotSame(call + ", done", () -> doneBehindTwo(f, isLong), () -> aheadOf(f, isLong));
                Looks.areSame(call + ", taken back", () -> {
                    TapeEngine x = doneBehindTwo(f, isLong);
                    Check.due(call + ", back()", x.back(), 2);
                    return x;
                }, () -> aheadOf(f, isLong));
                TapeEngine x = aheadOf(f, isLong);
                x.back();
                x.back();
                Check.due("multiplier()", x.multiplier(), 0);
                Check.due("count(5)", x.count(5), -1);
                Check.due("count(3)", x.count(3), 0);
            }
        }
    }

    /** Two ORDERS are DONE, and the next one is of FUNCTION f. */
    private static TapeEngine aheadOf(int f, boolean isLong) {
        TapeEngine x = new TapeEngine();
        x.storeLong(100, 0x5_5555_5555L);
        x.storeLong(102, (1L << 35) - 1);
        x.storeLong(104, 11L << 30);
        x.set(-12345, 678);
        x.punch(21, 1);
        x.order(0, Check.H, 100, true);
        x.order(1, Check.O, 100, true);
        x.order(2, f, f == Check.O ? 104 : 103, isLong);
        x.order(3, Check.X, 0, false);
        x.run(2);
        x.run(0);
        x.reach(0);
        return x;
    }

    private static TapeEngine doneBehindTwo(int f, boolean isLong) {
        TapeEngine x = aheadOf(f, isLong);
        x.run(1);
        x.run(0);
        return x;
    }

    private static void backFromTapeAndShifts() {
        Check.promise(21);
        TapeEngine x = printsFromTape();
        x.run(17);
        Check.due("text(0)", x.text(0), '8');
        Check.due("text(1)", x.text(1), 'I');
        for (int n = 16; n >= 0; n--) {
            Check.due("back()", x.back(), n);
            Check.due("count(0)", x.count(0), n);
            Check.due("count(2)", x.count(2), (n + 3) / 4);
            Check.due("count(3)", x.count(3), n > 14 ? 2 : n > 6 ? 1 : 0);
            Check.due("count(4)", x.count(4), n > 2 && n <= 10 ? 1 : 0);
            int last = n > 14 ? 8 : n > 10 ? Check.LETS : n > 6 ? 8 : n > 2 ? Check.FIGS : -1;
            Check.due("count(5)", x.count(5), last);
            int left = n;
            Looks.areSame("taken back to " + n, () -> printedFromTape(17, left), () -> printedFromTape(left, left));
        }
    }

    /** So many ORDERS are DONE, and taken back until some are left. */
    private static TapeEngine printedFromTape(int orders, int left) {
        TapeEngine x = printsFromTape();
        x.run(orders);
        x.run(0);
        while (x.count(7) > left) {
            x.back();
        }
        return x;
    }

    private static TapeEngine printsFromTape() {
        TapeEngine x = new TapeEngine();
        x.punch((Check.FIGS << 15) | (8 << 10) | (Check.LETS << 5) | 8, 4);
        for (int n = 0; n < 16; n += 4) {
            x.order(n, Check.I, 100, true);
            x.order(n + 1, Check.A, 100, true);
            x.order(n + 3, Check.X, 0, false);
        }
        x.order(16, Check.Z, 0, false);
        x.storeLong(102, (long) Check.FIGS << 30);
        x.storeLong(104, 8L << 30);
        x.storeLong(106, (long) Check.LETS << 30);
        x.order(2, Check.O, 103, false);
        x.order(6, Check.O, 105, false);
        x.order(10, Check.O, 107, false);
        x.order(14, Check.O, 105, false);
        return x;
    }

    private static void notBack() {
        Check.promise(21);
        for (int call = 0; call < 16; call++) {
            TapeEngine x = new TapeEngine();
            x.image();
            Check.does(x, 20, Check.X, 0, false);
            boolean stays = call >= 10;
            switch (call) {
                case 0: x.store(0, 0); break;
                case 1: x.storeLong(0, 0); break;
                case 2: x.order(0, 0, 0, false); break;
                case 3: x.set(0, 0); break;
                case 4: x.punch(0, 1); break;
                case 5: x.rewind(); break;
                case 6: x.tear(); break;
                case 7: x.load(); break;
                case 8: x.start(21); break;
                case 9: x.recall(); break;
                case 10: x.image(); break;
                case 11: x.mark(0, true); break;
                case 12: x.reach(0); break;
                case 13: x.run(0); break;
                case 14: x.run(-1); break;
                default: x.alters(); break;
            }
            Check.due("call " + call + ", count(7)", x.count(7), stays ? 1 : 0);
            Check.due("call " + call + ", back()", x.back(), stays ? 0 : -4);
        }
    }

    private static void done() {
        Check.promise(22);
        TapeEngine x = new TapeEngine();
        x.order(0, Check.X, 0, false);
        x.order(1, Check.Y, 0, false);
        x.order(2, Check.E, 0, false);
        x.run(3000);
        Check.due("done(X)", x.done(Check.X), 1000);
        Check.due("done(Y)", x.done(Check.Y), 1000);
        Check.due("done(E)", x.done(Check.E), 1000);
        Check.due("done(P)", x.done(Check.P), 0);
        x.back();
        x.back();
        Check.due("done(E), taken back", x.done(Check.E), 999);
        Check.due("done(Y), taken back", x.done(Check.Y), 999);
        Check.due("done(X)", x.done(Check.X), 1000);
        Check.due("done(-1)", x.done(-1), -2);
        Check.due("done(32)", x.done(32), -2);
        Check.due("done(31)", x.done(31), 0);
        x.store(0, 0);
        Check.due("done(X) stays", x.done(Check.X), 1000);
    }
}
