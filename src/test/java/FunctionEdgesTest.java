/** Each sentence of section 2 that names an edge has a test of its own here. */
public final class FunctionEdgesTest {
    private static final long TOP = 1L << 34;
    private static final long REST = 1L << 36;
    private static final long ALL_35 = (1L << 35) - 1;
    private static final long MIDDLE = 1L << 17;
    private static final String LEGAL = "ASHVNTUCRLEGIOFXYZ";

    public static void main(String[] args) {
        addAndSubtract();
        hold();
        products();
        transfers();
        collate();
        rightKeepsTheSign();
        left();
        placesOfShifts();
        jumps();
        input();
        output();
        fetchPrinted();
        passAndRound();
        stop();
        theNextOne();
        illegal();
        empty();
        full();
        shifts();
        dot();
        bytes();
        figures();
        Check.ending();
    }

    private static void addAndSubtract() {
        Check.sentence("A: AC and C. S: AC less C.");
        TapeEngine x = new TapeEngine();
        x.store(100, 131071);
        x.set(0, REST - 1);
        Check.does(x, 0, Check.A, 100, false);
        Check.acIs("A -1, the rest stays", x, -(1L << 18), REST - 1);
        Check.does(x, 0, Check.S, 100, false);
        Check.acIs("S -1", x, 0, REST - 1);
        Check.does(x, 0, Check.S, 100, false);
        Check.acIs("S -1", x, 1L << 18, REST - 1);
        x.storeLong(102, TOP);
        x.set(0, 0);
        Check.does(x, 0, Check.S, 102, true);
        Check.acIs("S of the least", x, -TOP, 0);
        Check.due("multiplier() stays", x.multiplier(), 0);
        Check.due("wordLong(102) stays", x.wordLong(102), -TOP);
    }

    private static void hold() {
        Check.sentence("H: MULT becomes C, as 35 bits.");
        TapeEngine x = new TapeEngine();
        x.storeLong(100, ALL_35);
        x.storeLong(102, MIDDLE);
        x.set(5, 6);
        Check.does(x, 0, Check.H, 100, true);
        Check.due("multiplier()", x.multiplier(), -1);
        Check.does(x, 0, Check.H, 101, false);
        Check.due("multiplier(), its lowest 18 are 0", x.multiplier(), -(1L << 18));
        Check.does(x, 0, Check.H, 103, true);
        Check.due("multiplier()", x.multiplier(), MIDDLE);
        Check.does(x, 0, Check.H, 102, false);
        Check.due("multiplier(), nothing of it stays", x.multiplier(), 0);
        Check.acIs("AC stays", x, 5, 6);
    }

    private static void products() {
        Check.sentence("V: AC and 4 times MULT times C (both as 35 bits); N: AC less that.");
        TapeEngine x = new TapeEngine();
        x.storeLong(100, 1);
        x.storeLong(102, ALL_35);
        x.store(104, 65536);
        Check.does(x, 0, Check.H, 102, true);
        Check.does(x, 0, Check.V, 100, true);
        Check.acIs("V -1, 1", x, -1, REST - 4);
        Check.does(x, 0, Check.V, 102, true);
        Check.acIs("V -1, -1", x, 0, 0);
        Check.does(x, 0, Check.N, 102, true);
        Check.acIs("N -1, -1", x, -1, REST - 4);
        Check.does(x, 0, Check.N, 100, true);
        Check.acIs("N -1, 1", x, 0, 0);
        Check.does(x, 0, Check.V, 104, false);
        Check.acIs("V -1, SHORT least", x, 1, 0);
        Check.does(x, 0, Check.N, 104, false);
        Check.does(x, 0, Check.H, 104, false);
        Check.does(x, 0, Check.N, 104, false);
        Check.acIs("N least, least", x, -TOP, 0);
        x.set(1, 1);
        Check.does(x, 0, Check.V, 106, true);
        Check.acIs("V least, 0", x, 1, 1);
    }

    private static void transfers() {
        Check.sentence("T: C becomes the highest 17, or 35, bits of AC, which is 0 then; U: likewise, AC stays.");
        long[] tops = {TOP - 1, -TOP, -1, (1L << 18) - 1, 1L << 18, 0};
        long[] dueShort = {65535, 65536, 131071, 0, 1, 0};
        for (int i = 0; i < tops.length; i++) {
            TapeEngine x = new TapeEngine();
            x.storeLong(100, 5);
            x.set(tops[i], REST - 1);
            Check.does(x, 0, Check.U, 100, false);
            Check.due("U SHORT, word(100)", x.word(100), dueShort[i]);
            Check.due("U SHORT, word(101)", x.word(101), 0);
            Check.does(x, 0, Check.U, 102, true);
            Check.due("U LONG, wordLong(102)", x.wordLong(102), tops[i]);
            Check.acIs("U", x, tops[i], REST - 1);
            Check.does(x, 0, Check.T, 105, false);
            Check.due("T SHORT, word(105)", x.word(105), dueShort[i]);
            Check.due("T SHORT, word(104)", x.word(104), 0);
            Check.acIs("T SHORT", x, 0, 0);
            x.set(tops[i], REST - 1);
            Check.does(x, 0, Check.T, 107, true);
            Check.due("T LONG, wordLong(106)", x.wordLong(106), tops[i]);
            Check.acIs("T LONG", x, 0, 0);
            Check.due("multiplier() stays", x.multiplier(), 0);
        }
    }

    private static void collate() {
        Check.sentence("C: AC and 2^36 times the bits that are 1 in both MULT and C (as 35 bits; with its sign).");
        TapeEngine x = new TapeEngine();
        x.storeLong(100, TOP | MIDDLE | 6);
        x.storeLong(102, TOP | 3);
        x.storeLong(104, TOP - 1);
        Check.does(x, 0, Check.H, 100, true);
        Check.does(x, 0, Check.C, 102, true);
        Check.acIs("both below 0", x, -TOP + 2, 0);
        x.set(1, 8);
        Check.does(x, 0, Check.C, 104, true);
        Check.acIs("one below 0", x, 1 + MIDDLE + 6, 8);
        x.set(0, 8);
        x.store(106, 65536 + 9);
        Check.does(x, 0, Check.C, 106, false);
        Check.acIs("SHORT", x, -TOP, 8);
        x.set(3, 8);
        Check.does(x, 0, Check.C, 108, true);
        Check.acIs("none in both", x, 3, 8);
        Check.due("multiplier() stays", x.multiplier(), -TOP + MIDDLE + 6);
    }

    /** Does the ORDER of these bits at 0. */
    private static void doBits(TapeEngine x, int bits) {
        x.store(0, bits);
        x.start(0);
        x.run(1);
    }

    private static void rightKeepsTheSign() {
        Check.sentence("R: AC is shifted to the right, its sign kept, by p;");
        for (int p = 1; p <= 12; p++) {
            TapeEngine x = new TapeEngine();
            int order = (Check.R << 12) | (1 << (p - 1));
            x.set(-1, REST - 1);
            doBits(x, order);
            Check.acIs("R " + p + ", -1", x, -1, REST - 1);
            x.set(-TOP, 0);
            doBits(x, order);
            Check.acIs("R " + p + ", the least", x, -TOP >> p, 0);
            x.set(TOP - 1, REST - 1);
            doBits(x, order);
            Check.acIs("R " + p + ", the most", x, (TOP >> p) - 1, REST - 1);
            x.set(1, 0);
            doBits(x, order);
            Check.acIs("R " + p + ", from top to rest", x, 0, REST >> p);
            x.set(0, (1L << p) - 1);
            doBits(x, order);
            Check.acIs("R " + p + ", all falls out", x, 0, 0);
        }
    }

    private static void left() {
        Check.sentence("L to the left by p");
        for (int p = 1; p <= 12; p++) {
            TapeEngine x = new TapeEngine();
            int order = (Check.L << 12) | (1 << (p - 1));
            x.set(0, REST >> p);
            doBits(x, order);
            Check.acIs("L " + p + ", from rest to top", x, 1, 0);
            x.set(-1, REST - 1);
            doBits(x, order);
            Check.acIs("L " + p + ", -1", x, -1, REST - (1L << p));
            x.set(TOP >> p, 0);
            doBits(x, order);
            Check.acIs("L " + p + ", up to the sign", x, -TOP, 0);
            x.set(p == 1 ? -TOP : TOP >> (p - 1), 1);
            doBits(x, order);
            Check.acIs("L " + p + ", the highest falls out", x, 0, 1L << p);
        }
    }

    private static void placesOfShifts() {
        Check.sentence("p is 1 and the place (from 0, the lowest) of the lowest bit that is 1 in the ORDER.");
        for (int place = 0; place < 12; place++) {
            for (int higher = 0; higher < 2; higher++) {
                int bits = higher == 0 ? 1 << place : 4096 - (1 << place);
                TapeEngine x = new TapeEngine();
                x.set(0, 1);
                doBits(x, (Check.L << 12) | bits);
                Check.acIs("L " + bits, x, 0, 2L << place);
                doBits(x, (Check.R << 12) | bits);
                Check.acIs("R " + bits, x, 0, 1);
            }
        }
        // none below the FUNCTION's: L is 25, R is 4
        TapeEngine x = new TapeEngine();
        x.set(0, 1);
        doBits(x, Check.L << 12);
        Check.acIs("L, place 12", x, 0, 1L << 13);
        x.set(0, 1L << 20);
        doBits(x, Check.R << 12);
        Check.acIs("R, place 14", x, 0, 1L << 5);
    }

    private static void jumps() {
        Check.sentence("E: if AC is 0 or above, G: if it is below 0: the next ORDER is that at n.");
        long[] tops = {0, 0, 0, -1, -1, TOP - 1, -TOP};
        long[] rests = {0, 1, REST - 1, REST - 1, 0, REST - 1, 0};
        boolean[] below = {false, false, false, true, true, false, true};
        for (int i = 0; i < tops.length; i++) {
            for (int length = 0; length < 2; length++) {
                TapeEngine x = new TapeEngine();
                String ac = ", AC " + tops[i] + " " + rests[i];
                x.set(tops[i], rests[i]);
                Check.does(x, 255, Check.E, 99, length == 1);
                Check.due("E" + ac, x.count(0), below[i] ? 0 : 99);
                Check.does(x, 7, Check.G, 255, length == 1);
                Check.due("G" + ac, x.count(0), below[i] ? 255 : 8);
                Check.acIs("AC stays" + ac, x, tops[i], rests[i]);
            }
        }
    }

    private static void input() {
        Check.sentence("I: C becomes the next SYMBOL of THE TAPE (a LONG one with its MIDDLE bit 0).");
        TapeEngine x = new TapeEngine();
        x.punch((31L << 10) | (30 << 5), 3);
        x.storeLong(100, ALL_35);
        x.storeLong(102, ALL_35);
        Check.does(x, 0, Check.I, 101, true);
        Check.due("I LONG", x.wordLong(100), 31);
        Check.due("count(2)", x.count(2), 1);
        Check.does(x, 0, Check.I, 102, false);
        Check.due("I SHORT", x.word(102), 30);
        Check.due("I SHORT, the other and the MIDDLE bit", x.wordLong(102), -MIDDLE + 30);
        Check.does(x, 0, Check.I, 103, false);
        Check.due("I SHORT of SYMBOL 0", x.word(103), 0);
        Check.due("count(2)", x.count(2), 3);
        Check.acIs("AC stays", x, 0, 0);
    }

    private static void output() {
        Check.sentence("O: the highest five bits of C are PRINTED.");
        TapeEngine x = new TapeEngine();
        x.store(100, (Check.Q << 12) | 4095);
        x.store(101, (Check.V << 12) | 4095);
        Check.does(x, 0, Check.O, 100, false);
        Check.due("O SHORT 100", x.text(0), 'Q');
        Check.does(x, 0, Check.O, 101, false);
        Check.due("O SHORT 101", x.text(1), 'V');
        Check.does(x, 0, Check.O, 100, true);
        Check.due("O LONG 100", x.text(2), 'V');
        x.store(101, 4095);
        Check.does(x, 0, Check.O, 101, true);
        Check.due("O LONG 101, SYMBOL 0", x.text(3), 'P');
        Check.due("count(5)", x.count(5), 0);
        Check.due("count(3)", x.count(3), 4);
        Check.due("wordLong(100) stays", x.wordLong(100), (4095L << 18) | (Check.Q << 12) | 4095);
    }

    private static void fetchPrinted() {
        Check.sentence("F: the highest five bits of C become the SYMBOL PRINTED last (0 without one), its others stay.");
        TapeEngine x = new TapeEngine();
        x.storeLong(102, ALL_35);
        x.storeLong(104, ALL_35);
        Check.does(x, 0, Check.F, 102, false);
        Check.due("F SHORT without one", x.wordLong(102) & ALL_35, ALL_35 - (31 << 12));
        Check.does(x, 0, Check.F, 104, true);
        Check.due("F LONG without one", x.wordLong(104), (1L << 30) - 1);
        Check.due("count(5)", x.count(5), -1);
        x.store(100, Check.D << 12);
        Check.does(x, 0, Check.O, 100, false);
        Check.does(x, 0, Check.F, 102, false);
        Check.due("F SHORT", x.wordLong(102) & ALL_35, ALL_35 - (31 << 12) + (Check.D << 12));
        Check.does(x, 0, Check.F, 105, true);
        Check.due("F LONG", x.wordLong(104) & ALL_35, ((long) Check.D << 30) + (1L << 30) - 1);
        x.store(100, Check.V << 12);
        Check.does(x, 0, Check.O, 100, false);
        Check.does(x, 0, Check.F, 106, true);
        Check.due("F LONG, the others are 0", x.wordLong(106), -(1L << 30));
        Check.due("count(3), nothing is PRINTED", x.count(3), 2);
    }

    private static void passAndRound() {
        Check.sentence("X: nothing. Y: AC and 2^35.");
        TapeEngine x = new TapeEngine();
        x.storeLong(100, ALL_35);
        x.set(-1, REST / 2);
        Check.does(x, 0, Check.X, 100, true);
        Check.acIs("X", x, -1, REST / 2);
        Check.due("X, wordLong(100)", x.wordLong(100), -1);
        Check.due("X, multiplier()", x.multiplier(), 0);
        Check.does(x, 0, Check.Y, 100, true);
        Check.acIs("Y from below 0 to 0", x, 0, 0);
        Check.does(x, 0, Check.Y, 100, false);
        Check.acIs("Y", x, 0, REST / 2);
        Check.due("Y, wordLong(100)", x.wordLong(100), -1);
    }

    private static void stop() {
        Check.sentence("Z: the engine HALTS behind it.");
        int[] places = {0, 254, 255};
        for (int n : places) {
            TapeEngine x = new TapeEngine();
            x.order((n + 1) & 255, Check.Y, 0, false);
            x.order(n, Check.Z, 100, true);
            x.start(n);
            Check.due("run(3000)", x.run(3000), 1);
            Check.due("why()", x.why(), 1);
            Check.due("count(0)", x.count(0), (n + 1) & 255);
            Check.due("done(Z)", x.done(Check.Z), 1);
            Check.acIs("nothing of the next one", x, 0, 0);
            Check.due("run(1) goes on behind it", x.run(1), 1);
            Check.due("done(Y)", x.done(Check.Y), 1);
        }
    }

    private static void theNextOne() {
        Check.sentence("Else the next ORDER is that behind it (0 behind 255).");
        for (int i = 0; i < LEGAL.length(); i++) {
            int f = Check.LETTERS.indexOf(LEGAL.charAt(i));
            int[] places = {0, 127, 128, 254, 255};
            for (int n : places) {
                TapeEngine x = new TapeEngine();
                x.punch(1, 1);
                // neither E nor G goes to its ADDRESS
                x.set(f == Check.E ? -1 : 0, 0);
                Check.due(LEGAL.charAt(i) + ", run(1)", Check.does(x, n, f, 100, false), 1);
                Check.due(LEGAL.charAt(i) + " at " + n, x.count(0), n == 255 ? 0 : n + 1);
            }
        }
    }

    private static void illegal() {
        Check.sentence("It HALTS ahead of an ORDER (which is not DONE): ILLEGAL: another FUNCTION;");
        for (int f = 0; f < 32; f++) {
            boolean isIllegal = LEGAL.indexOf(Check.LETTERS.charAt(f)) < 0;
            TapeEngine x = new TapeEngine();
            x.punch(1, 1);
            x.order(0, Check.X, 0, false);
            x.order(1, f, 100, false);
            x.order(2, Check.Z, 0, false);
            x.order(100, Check.Z, 0, false);
            int due = isIllegal ? 1 : f == Check.Z ? 2 : 3;
            Check.due("FUNCTION " + f + ", run(9)", x.run(9), due);
            Check.due("FUNCTION " + f + ", why()", x.why(), isIllegal ? 2 : 1);
            Check.due("FUNCTION " + f + ", done()", x.done(f) > 0 ? 1 : 0, isIllegal ? 0 : 1);
            Check.due("FUNCTION " + f + ", count(7)", x.count(7), due);
            if (isIllegal) {
                Check.due("FUNCTION " + f + ", count(0)", x.count(0), 1);
                Check.due("FUNCTION " + f + ", run(9) again", x.run(9), 0);
                Check.due("FUNCTION " + f + ", why() again", x.why(), 2);
            }
        }
    }

    private static void empty() {
        Check.sentence("EMPTY: I, and THE TAPE has no more;");
        TapeEngine x = new TapeEngine();
        x.order(0, Check.I, 100, true);
        x.order(1, Check.E, 0, false);
        x.storeLong(100, 77);
        Check.due("run(9), no SYMBOL at all", x.run(9), 0);
        Check.due("why()", x.why(), 3);
        Check.due("wordLong(100) stays", x.wordLong(100), 77);
        Check.due("done(I)", x.done(Check.I), 0);
        Check.due("count(0)", x.count(0), 0);
        x.punch(0, 1);
        Check.due("run(9), one more", x.run(9), 2);
        Check.due("why()", x.why(), 3);
        Check.due("wordLong(100), SYMBOL 0", x.wordLong(100), 0);
        Check.due("count(2)", x.count(2), 1);
        x.rewind();
        Check.due("run(9), wound back", x.run(9), 2);
        for (int i = 1; i < 1000; i += 9) {
            x.punch(-1, 9);
        }
        Check.due("count(1)", x.count(1), 1000);
        Check.due("run(1996)", x.run(1996), 1996);
        Check.due("count(2)", x.count(2), 999);
        Check.due("why()", x.why(), 0);
        Check.due("run(9), the last of 1000", x.run(9), 2);
        Check.due("why()", x.why(), 3);
        Check.due("wordLong(100)", x.wordLong(100), 31);
        Check.due("count(2)", x.count(2), 1000);
    }

    private static void full() {
        Check.sentence("FULL: O, and THE TEXT has 400 bytes.");
        TapeEngine x = new TapeEngine();
        x.order(0, Check.O, 100, false);
        x.order(1, Check.E, 0, false);
        Check.due("run(798)", x.run(798), 798);
        Check.due("count(3)", x.count(3), 399);
        Check.due("run(9), one byte more", x.run(9), 2);
        Check.due("why()", x.why(), 4);
        Check.due("count(3)", x.count(3), 400);
        Check.due("text(399)", x.text(399), 'P');
        Check.due("count(0)", x.count(0), 0);
        Check.due("done(O)", x.done(Check.O), 400);
        int[] writingNone = {Check.LETS, Check.FIGS, Check.DOT};
        for (int symbol : writingNone) {
            x.store(100, symbol << 12);
            Check.due("run(9), O of SYMBOL " + symbol, x.run(9), 0);
            Check.due("why()", x.why(), 4);
            Check.due("count(5) stays", x.count(5), 0);
        }
        x.order(0, Check.X, 0, false);
        Check.due("run(4), another FUNCTION", x.run(4), 4);
        Check.due("tear()", x.tear(), 400);
        x.order(0, Check.O, 100, false);
        Check.due("run(9) behind tear()", x.run(9), 9);
        Check.due("count(3)", x.count(3), 0);
    }

    private static void print(TapeEngine x, int symbol) {
        x.store(100, symbol << 12);
        Check.does(x, 0, Check.O, 100, false);
    }

    private static void shifts() {
        Check.sentence("PRINTED: * sets LETTERS, # FIGURES (LETTERS at first);");
        TapeEngine x = new TapeEngine();
        int[] symbols = {1, Check.LETS, 1, Check.FIGS, 1, Check.FIGS, 1, Check.LETS, 1};
        int[] dueFigures = {0, 0, 0, 1, 1, 1, 1, 0, 0};
        for (int i = 0; i < symbols.length; i++) {
            Check.due("count(4) ahead of " + i, x.count(4), i == 0 ? 0 : dueFigures[i - 1]);
            print(x, symbols[i]);
            Check.due("count(4) behind " + i, x.count(4), dueFigures[i]);
            Check.due("count(5)", x.count(5), symbols[i]);
        }
        String due = "QQ11Q";
        Check.due("count(3), shifts write nothing", x.count(3), due.length());
        for (int i = 0; i < due.length(); i++) {
            Check.due("text(" + i + ")", x.text(i), due.charAt(i));
        }
    }

    private static void dot() {
        Check.sentence(". does nothing;");
        int[] shifts = {Check.LETS, Check.FIGS};
        for (int shift : shifts) {
            TapeEngine x = new TapeEngine();
            print(x, shift);
            print(x, Check.DOT);
            Check.due("count(3)", x.count(3), 0);
            Check.due("count(4)", x.count(4), shift == Check.FIGS ? 1 : 0);
            Check.due("count(5)", x.count(5), Check.DOT);
        }
    }

    private static void bytes() {
        Check.sentence("@, &, ! write the bytes 13, 10, 32.");
        int[] shifts = {Check.LETS, Check.FIGS};
        for (int shift : shifts) {
            TapeEngine x = new TapeEngine();
            print(x, shift);
            print(x, Check.LETTERS.indexOf('@'));
            print(x, Check.LETTERS.indexOf('&'));
            print(x, Check.LETTERS.indexOf('!'));
            Check.due("count(3)", x.count(3), 3);
            Check.due("@", x.text(0), 13);
            Check.due("&", x.text(1), 10);
            Check.due("!", x.text(2), 32);
            Check.due("count(4) stays", x.count(4), shift == Check.FIGS ? 1 : 0);
        }
    }

    private static void figures() {
        Check.sentence("Others write in LETTERS their letter, in FIGURES 0 to 9 their figure, "
            + "others by the letters JSZKFDHNMLXGABCV the signs '\"+($;%,.)/<-?:= in this order.");
        String letters = "PQWERTYUIOJSZKFDHNMLXGABCV";
        String figures = "0123456789'\"+($;%,.)/<-?:=";
        for (int i = 0; i < letters.length(); i++) {
            TapeEngine x = new TapeEngine();
            int symbol = Check.LETTERS.indexOf(letters.charAt(i));
            print(x, symbol);
            print(x, Check.FIGS);
            print(x, symbol);
            Check.due("letter of " + symbol, x.text(0), letters.charAt(i));
            Check.due("figure of " + symbol, x.text(1), figures.charAt(i));
            Check.due("count(3)", x.count(3), 2);
            Check.due("count(4) stays", x.count(4), 1);
        }
    }
}
