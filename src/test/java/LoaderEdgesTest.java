/** Each sentence of section 3 that names an edge has a test of its own here. */
public final class LoaderEdgesTest {
    public static void main(String[] args) {
        fromItsPlaceOn();
        placeAtFirst();
        wordsAsItBegins();
        passedOver();
        figures();
        modulo1024();
        words();
        places();
        toPlace();
        word42();
        toTheEngine();
        wrong();
        whereTheTapeEnds();
        Check.ending();
    }

    private static void fromItsPlaceOn() {
        Check.sentence("3 THE LOADER takes SYMBOLS of THE TAPE from its place on.");
        TapeEngine x = new TapeEngine();
        Check.punch(x, "VAQF");
        Check.does(x, 0, Check.I, 100, false);
        Check.due("load()", x.load(), 1);
        Check.due("word(64)", x.word(64), (Check.A << 12) + 2);
        Check.due("count(2)", x.count(2), 4);
        Check.due("I behind it", Check.does(x, 0, Check.I, 100, false), 0);
        x.rewind();
        Check.due("load(), from the first SYMBOL", x.load(), 2);
        Check.due("word(64), V ended by A", x.word(64), Check.V << 12);
        Check.due("word(65), Q ended by F", x.word(65), Check.Q << 12);
        Check.punch(x, "ZPFEPKXWF");
        Check.due("load()", x.load(), 1);
        Check.due("count(2), behind E K", x.count(2), 10);
        Check.due("load(), from there on", x.load(), 1);
        Check.due("word(64)", x.word(64), (Check.X << 12) + 4);
    }

    private static void placeAtFirst() {
        Check.sentence("PLACE is 64 at first;");
        TapeEngine x = new TapeEngine();
        Check.due("count(8), ahead of it", x.count(8), -1);
        x.load();
        Check.due("count(8), an empty TAPE", x.count(8), 64);
        Check.punch(x, "AQFAWF");
        x.load();
        Check.due("word(63)", x.word(63), 0);
        Check.due("word(64)", x.word(64), (Check.A << 12) + 2);
        Check.due("word(65)", x.word(65), (Check.A << 12) + 4);
        Check.due("count(8)", x.count(8), 66);
        Check.punch(x, "TQKAEF");
        x.load();
        Check.due("count(8)", x.count(8), 2);
        Check.punch(x, "AEF");
        x.load();
        Check.due("word(64), of a later one", x.word(64), (Check.A << 12) + 6);
        Check.due("count(8)", x.count(8), 65);
    }

    private static void wordsAsItBegins() {
        Check.sentence("the SHORT words 41 and 43 become 0 and 1 as it begins.");
        TapeEngine x = new TapeEngine();
        for (int n = 40; n <= 44; n++) {
            x.store(n, 131071);
        }
        x.load();
        int[] due = {131071, 0, 131071, 1, 131071};
        for (int n = 40; n <= 44; n++) {
            Check.due("word(" + n + ")", x.word(n), due[n - 40]);
        }
        // not once more in the same load(): F and D end with what was laid there
        Check.punch(x, "TRQKPUFPIFPOFPPFPPD");
        Check.due("load()", x.load(), 5);
        Check.due("word(41)", x.word(41), 14);
        Check.due("word(43), 9 and word 41", x.word(43), 18 + 14);
        Check.due("word(44), word 41", x.word(44), 14);
        Check.due("word(45), word 43", x.word(45), 18 + 14);
        x.load();
        Check.due("word(41), by the next load()", x.word(41), 0);
        Check.due("word(43)", x.word(43), 1);
    }

    private static void passedOver() {
        Check.sentence("SYMBOLS 16 ahead of an item are passed over.");
        TapeEngine x = new TapeEngine();
        Check.punch(x, "...AQF.AWF..TUPK.AEF");
        Check.due("load()", x.load(), 3);
        Check.due("loaded()", x.loaded(), 1);
        Check.due("word(64)", x.word(64), (Check.A << 12) + 2);
        Check.due("word(65)", x.word(65), (Check.A << 12) + 4);
        Check.due("word(70)", x.word(70), (Check.A << 12) + 6);
        // not in an item: there it is an end
        Check.punch(x, "A.");
        x.load();
        Check.due("loaded(), 16 behind f", x.loaded(), 3);
        Check.punch(x, "AQ.");
        x.load();
        Check.due("loaded(), 16 behind figures", x.loaded(), 3);
    }

    private static void figures() {
        Check.sentence("An item: a SYMBOL f; figures (SYMBOLS 0 .. 9), n being 0, then 10 n and each");
        TapeEngine x = new TapeEngine();
        Check.punch(x, "AFAPFAOFAQPFAQWEFPOFOPFJF");
        Check.due("load()", x.load(), 8);
        int[] due = {0, 0, 9, 10, 123};
        for (int i = 0; i < due.length; i++) {
            Check.due("word(" + (64 + i) + ")", x.word(64 + i), (Check.A << 12) + 2 * due[i]);
        }
        Check.due("f 0, figure 9", x.word(69), 18);
        Check.due("f 9, figure 0", x.word(70), 9 << 12);
        Check.due("f 10", x.word(71), 10 << 12);
        x = new TapeEngine();
        Check.punch(x, "AJ");
        x.load();
        Check.due("loaded(), SYMBOL 10 is no figure", x.loaded(), 3);
    }

    private static void modulo1024() {
        Check.sentence("then 10 n and each, modulo 1024;");
        String[] tapes = {"QPWE", "QPWR", "QPWT", "WPRI", "OOOO", "QPWEO", "QPWRPPPPPPPPPPPP", "OOOOOOOOOOOO"};
        long[] numbers = {1023, 1024, 1025, 2048, 9999, 10239, 1024, 999999999999L};
        for (int i = 0; i < tapes.length; i++) {
            TapeEngine x = new TapeEngine();
            Check.punch(x, "A" + tapes[i] + "F");
            Check.due(tapes[i] + ", load()", x.load(), 1);
            Check.due(tapes[i] + ", word(64)", x.word(64), (Check.A << 12) + 2 * (i == 6 ? 0 : numbers[i] % 1024));
        }
    }

    private static void words() {
        Check.sentence("e 17 or above: the SHORT word at PLACE becomes 4096 f + 2 n + the SHORT word 24 + e, of which 17 bits stay;");
        for (int e = 16; e < 32; e++) {
            TapeEngine x = new TapeEngine();
            for (int n = 39; n < 57; n++) {
                x.store(n, 131000 + n);
            }
            x.punch((Check.T << 10) | (3 << 5) | e, 3);
            Check.due("e " + e + ", load()", x.load(), e < 17 ? 0 : 1);
            Check.due("e " + e + ", loaded()", x.loaded(), e < 17 ? 3 : 1);
            int added = e == 17 ? 0 : e == 19 ? 1 : 131000 + 24 + e;
            long due = e < 17 ? 0 : ((Check.T << 12) + 6 + added) % 131072;
            Check.due("e " + e + ", word(64)", x.word(64), due);
            Check.due("word(65)", x.word(65), 0);
        }
        TapeEngine x = new TapeEngine();
        x.store(42, 1);
        x.store(44, 131071);
        Check.punch(x, "VQPWE@VQPWE!PP!");
        x.load();
        Check.due("17 bits of the most and 1", x.word(64), 31 * 4096 + 2046 + 1);
        Check.due("17 bits of the most", x.word(65), 31 * 4096 + 2046 - 1);
        Check.due("17 bits of 0 and the most", x.word(66), 131071);
        Check.due("wordLong(64), no MIDDLE bit", x.wordLong(64) & (1L << 17), 0);
    }

    private static void places() {
        Check.sentence("PLACE is one more (0 behind 255).");
        TapeEngine x = new TapeEngine();
        Check.punch(x, "TWTRKAQFAWFAEF");
        Check.due("load()", x.load(), 3);
        Check.due("word(254)", x.word(254), (Check.A << 12) + 2);
        Check.due("word(255)", x.word(255), (Check.A << 12) + 4);
        Check.due("word(0)", x.word(0), (Check.A << 12) + 6);
        Check.due("count(8)", x.count(8), 1);
        Check.punch(x, "TWTTKAQF");
        x.load();
        Check.due("count(8), behind 255", x.count(8), 0);
    }

    private static void toPlace() {
        Check.sentence("T: PLACE becomes n modulo 256;");
        String[] tapes = {"", "P", "WTT", "WTU", "WTY", "TQQ", "TQW", "QPWE", "QPWR", "QWIP"};
        int[] due = {0, 0, 255, 1, 0, 255, 0, 255, 0, 0};
        for (int i = 0; i < tapes.length; i++) {
            TapeEngine x = new TapeEngine();
            Check.punch(x, "T" + tapes[i] + "K");
            Check.due(tapes[i] + ", load()", x.load(), 0);
            Check.due(tapes[i] + ", loaded()", x.loaded(), 1);
            Check.due(tapes[i] + ", count(8)", x.count(8), due[i]);
            Check.due(tapes[i] + ", count(0)", x.count(0), 0);
        }
    }

    private static void word42() {
        Check.sentence("G: the SHORT word 42 becomes 2 PLACE;");
        String[] tapes = {"GK", "GQPWEK", "TPKGK", "TWTTKGUK", "TWTTKAFGK"};
        int[] due = {128, 128, 0, 510, 0};
        int[] duePlace = {64, 64, 0, 255, 0};
        for (int i = 0; i < tapes.length; i++) {
            TapeEngine x = new TapeEngine();
            x.store(42, 131071);
            Check.punch(x, tapes[i]);
            x.load();
            Check.due(tapes[i] + ", loaded()", x.loaded(), 1);
            Check.due(tapes[i] + ", word(42)", x.word(42), due[i]);
            Check.due(tapes[i] + ", word(43)", x.word(43), 1);
            Check.due(tapes[i] + ", count(8)", x.count(8), duePlace[i]);
        }
    }

    private static void toTheEngine() {
        Check.sentence("E: it ends, and the next ORDER is that at n modulo 256.");
        String[] tapes = {"", "P", "WTT", "WTY", "WTU", "TQQ", "TQW", "QPWE", "QPWR"};
        int[] due = {0, 0, 255, 0, 1, 255, 0, 255, 0};
        for (int i = 0; i < tapes.length; i++) {
            TapeEngine x = new TapeEngine();
            x.start(99);
            Check.punch(x, "E" + tapes[i] + "KAQF");
            Check.due(tapes[i] + ", load()", x.load(), 0);
            Check.due(tapes[i] + ", loaded()", x.loaded(), 0);
            Check.due(tapes[i] + ", count(0)", x.count(0), due[i]);
            Check.due(tapes[i] + ", count(2)", x.count(2), x.count(1) - 3);
            Check.due(tapes[i] + ", count(8) stays", x.count(8), 64);
        }
    }

    private static void wrong() {
        Check.sentence("Other f with K, other e: WRONG: it ends there (behind e).");
        for (int f = 0; f < 32; f++) {
            for (int e = 10; e < 17; e++) {
                boolean isControl = e == 14 && (f == Check.T || f == Check.G || f == Check.E);
                if (isControl || f == 16) {
                    continue;
                }
                TapeEngine x = new TapeEngine();
                x.start(99);
                x.punch(((long) f << 10) | (2 << 5) | e, 3);
                Check.punch(x, "AQF");
                String call = "f " + f + ", e " + e;
                Check.due(call + ", load()", x.load(), 0);
                Check.due(call + ", loaded()", x.loaded(), 3);
                Check.due(call + ", count(2)", x.count(2), 3);
                Check.due(call + ", count(0) stays", x.count(0), 99);
                Check.due(call + ", count(8) stays", x.count(8), 64);
                Check.due(call + ", word(42) stays", x.word(42), 0);
                Check.due(call + ", load() behind e", x.load(), 1);
                Check.due(call + ", word(64)", x.word(64), (Check.A << 12) + 2);
            }
        }
    }

    private static void whereTheTapeEnds() {
        Check.sentence("It ends, too, where THE TAPE does.");
        String[] tapes = {"", ".", "....", "AQF", "AQF..", "TQK", "GK", "A", ".A", "AQ", "AQFAQW", "E", "EQ", "T", "K"};
        int[] due = {1, 1, 1, 1, 1, 1, 1, 2, 2, 2, 2, 2, 2, 2, 2};
        for (int i = 0; i < tapes.length; i++) {
            TapeEngine x = new TapeEngine();
            x.start(99);
            Check.punch(x, tapes[i]);
            Check.due(tapes[i] + ", load()", x.load(), tapes[i].startsWith("AQF") ? 1 : 0);
            Check.due(tapes[i] + ", loaded()", x.loaded(), due[i]);
            Check.due(tapes[i] + ", count(2)", x.count(2), tapes[i].length());
            Check.due(tapes[i] + ", count(0) stays", x.count(0), 99);
            Check.due(tapes[i] + ", load() at the end", x.load(), 0);
            Check.due(tapes[i] + ", loaded() at the end", x.loaded(), 1);
        }
        // what was taken of an item is gone
        TapeEngine x = new TapeEngine();
        Check.punch(x, "AQ");
        x.load();
        Check.punch(x, "WF");
        x.load();
        Check.due("word(64)", x.word(64), Check.W << 12);
    }
}
