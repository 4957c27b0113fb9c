/** Promises 15 and 16: the loader. */
public final class LoaderTest {
    public static void main(String[] args) {
        emptyTape();
        words();
        places();
        relative();
        starts();
        wrongs();
        ends();
        numbers();
        aTapeOfMostItems();
        Check.ending();
    }

    private static void emptyTape() {
        Check.promise(15);
        TapeEngine x = new TapeEngine();
        x.store(41, 9);
        x.storeLong(42, (1L << 35) - 1);
        Check.does(x, 0, Check.X, 0, false);
        x.order(0, Check.X, 0, false);
        x.start(0);
        x.run(1);
        Check.due("load(), empty", x.load(), 0);
        Check.due("word(41)", x.word(41), 0);
        Check.due("word(43)", x.word(43), 1);
        Check.due("word(42) stays", x.word(42), 131071);
        Check.due("the MIDDLE bit stays", x.wordLong(42), (1L << 18) + (1L << 18) - 1);
        Check.due("count(7)", x.count(7), 0);
        Check.due("count(8)", x.count(8), 64);
        Check.due("count(0) stays", x.count(0), 1);
        Check.promise(16);
        Check.due("loaded()", x.loaded(), 1);
    }

    private static void words() {
        Check.promise(15);
        TapeEngine x = new TapeEngine();
        x.store(55, 131071);
        x.store(54, 5);
        Check.punch(x, "APF" + "TQWED" + "PV" + ".." + "VC" + "E.");
        x.punch(0, 1);
        Check.due("load()", x.load(), 4);
        Check.due("A0F", x.word(64), Check.A << 12);
        Check.due("T123D", x.word(65), (Check.T << 12) + 246 + 1);
        Check.due("V ends with word 55, 17 bits stay", x.word(66), 131071);
        Check.due("V ends with word 54", x.word(67), (Check.V << 12) + 5);
        Check.due("count(8)", x.count(8), 68);
        Check.promise(16);
        Check.due("loaded(), . is no end", x.loaded(), 3);
        Check.due("count(2), behind e", x.count(2), x.count(1) - 1);
    }

    private static void places() {
        Check.promise(15);
        TapeEngine x = new TapeEngine();
        Check.punch(x, "TWTTK" + "AQF" + "AWF");
        Check.due("load()", x.load(), 2);
        Check.due("word(255)", x.word(255), (Check.A << 12) + 2);
        Check.due("word(0), 0 behind 255", x.word(0), (Check.A << 12) + 4);
        Check.due("count(8)", x.count(8), 1);
        Check.punch(x, "TTQQK" + "AEF");
        Check.due("load()", x.load(), 1);
        Check.due("word(255), 511 modulo 256", x.word(255), (Check.A << 12) + 6);
        Check.due("count(8)", x.count(8), 0);
        Check.punch(x, "TUK");
        Check.due("load()", x.load(), 0);
        Check.due("count(8)", x.count(8), 7);
    }

    private static void relative() {
        Check.promise(15);
        TapeEngine x = new TapeEngine();
        Check.punch(x, "TRPKGK" + "AE@" + "GK" + "AE@");
        Check.due("load()", x.load(), 2);
        Check.due("word(40)", x.word(40), (Check.A << 12) + 6 + 80);
        Check.due("word(42), by the second G K", x.word(42), 82);
        Check.due("word(41)", x.word(41), (Check.A << 12) + 6 + 82);
        // PLACE is 64 again for each load(); the word 41 is 0 again
        Check.punch(x, "APF");
        Check.due("load()", x.load(), 1);
        Check.due("word(64)", x.word(64), Check.A << 12);
        Check.due("count(8)", x.count(8), 65);
        // an item may lay on the words that its end reads
        Check.punch(x, "TRQKPTFAPFTIPKAPF");
        Check.due("load()", x.load(), 3);
        Check.due("word(41), its own old value", x.word(41), 10);
        Check.due("word(42)", x.word(42), (Check.A << 12) + 10);
        Check.due("word(80)", x.word(80), (Check.A << 12) + 10);
    }

    private static void starts() {
        Check.promise(16);
        TapeEngine x = new TapeEngine();
        Check.punch(x, "ZPF" + "EWTYK" + "AQF");
        Check.due("load()", x.load(), 1);
        Check.due("loaded()", x.loaded(), 0);
        Check.due("count(0), 256 modulo 256", x.count(0), 0);
        Check.due("count(2)", x.count(2), 8);
        Check.due("load() from the place on", x.load(), 1);
        Check.due("word(64)", x.word(64), (Check.A << 12) + 2);
        Check.due("loaded()", x.loaded(), 1);
        Check.punch(x, "EYTK");
        x.load();
        Check.due("count(0)", x.count(0), 65);
        Check.punch(x, "EYRK");
        x.load();
        Check.due("count(0)", x.count(0), 64);
        Check.due("count(8)", x.count(8), 64);
        Check.due("run(1)", x.run(1), 1);
        Check.due("done(A)", x.done(Check.A), 1);
    }

    private static void wrongs() {
        Check.promise(16);
        String[] tapes = {"AK", "AQK", "PJ", "P#", "PS", "PZ", "P*", "P.", "SPQK", "TTJ", "E*", "GQ*"};
        for (String tape : tapes) {
            TapeEngine x = new TapeEngine();
            x.start(9);
            Check.punch(x, tape + "APF");
            Check.due(tape + ": load()", x.load(), 0);
            Check.due(tape + ": loaded()", x.loaded(), 3);
            Check.due(tape + ": count(2)", x.count(2), tape.length());
            Check.due(tape + ": count(0)", x.count(0), 9);
            Check.due(tape + ": count(8)", x.count(8), 64);
            Check.due(tape + ": load() goes on", x.load(), 1);
            Check.due(tape + ": loaded()", x.loaded(), 1);
        }
    }

    private static void ends() {
        Check.promise(16);
        TapeEngine x = new TapeEngine();
        Check.punch(x, "..");
        x.load();
        Check.due("loaded(), behind 16 alone", x.loaded(), 1);
        Check.due("count(2)", x.count(2), 2);
        Check.punch(x, ".A");
        x.load();
        Check.due("loaded(), in an item", x.loaded(), 2);
        Check.punch(x, "APFAQ");
        Check.due("load()", x.load(), 1);
        Check.due("loaded(), in its figures", x.loaded(), 2);
        Check.punch(x, "KPFA@.");
        Check.due("load()", x.load(), 2);
        Check.due("loaded(), between", x.loaded(), 1);
        Check.due("K is an f, too", x.word(64), Check.K << 12);
    }

    private static void numbers() {
        Check.promise(15);
        TapeEngine x = new TapeEngine();
        Check.punch(x, "AQPWRF" + "AQPWEF" + "AOOOOF" + "PPPPPF" + "TQPPPK" + "APF");
        Check.due("load()", x.load(), 5);
        Check.due("1024", x.word(64), Check.A << 12);
        Check.due("1023", x.word(65), (Check.A << 12) + 2046);
        Check.due("9999", x.word(66), (Check.A << 12) + 2 * (9999 % 1024));
        Check.due("figures as f", x.word(67), 0);
        Check.due("T1000K is 232", x.word(232), Check.A << 12);
        x = new TapeEngine();
        x.store(45, 1);
        // 4096 f + 2 n + the word is taken modulo 2^17
        x.store(46, 131071);
        Check.punch(x, "VQPWEN");
        x.load();
        Check.due("17 bits stay", x.word(64), (31 * 4096 + 2046 + 131071) & 131071);
    }

    private static void aTapeOfMostItems() {
        Check.promise(15);
        TapeEngine x = new TapeEngine();
        punchBoth(x, 500, Check.X, Check.F);
        Check.due("load(), 500 words", x.load(), 500);
        Check.due("count(8)", x.count(8), (64 + 500) & 255);
        x = new TapeEngine();
        x.punch(Check.X * 32 + 1, 2);
        punchBoth(x, 499, 1, 1);
        Check.due("load(), one long item", x.load(), 0);
        Check.due("loaded()", x.loaded(), 2);
        Check.due("count(2)", x.count(2), 1000);
        x = new TapeEngine();
        punchBoth(x, 500, Check.DOT, Check.DOT);
        Check.due("load(), 1000 times 16", x.load(), 0);
        Check.due("loaded()", x.loaded(), 1);
        Check.due("count(2)", x.count(2), 1000);
    }

    /** Punches two symbols so many times, up to six times by a call. */
    private static void punchBoth(TapeEngine x, int times, int first, int second) {
        for (int left = times; left > 0; left -= 6) {
            long v = 0;
            for (int i = 0; i < Math.min(left, 6); i++) {
                v = (v << 10) | (first << 5) | second;
            }
            x.punch(v, 2 * Math.min(left, 6));
        }
    }
}
