/** Promises 11 to 14: tape and text, and what I, O and F do with them. */
public final class TapeTextTest {
    public static void main(String[] args) {
        punch();
        rewind();
        input();
        text();
        printing();
        fetchPrinted();
        fullText();
        tear();
        Check.ending();
    }

    private static void punch() {
        Check.promise(11);
        TapeEngine x = new TapeEngine();
        Check.due("punch(.., 3), highest first", x.punch((1 << 10) | (2 << 5) | 3, 3), 3);
        Check.due("punch(-1, 1)", x.punch(-1, 1), 4);
        Check.due("punch(2^62 + 9, 2)", x.punch((1L << 62) + 9, 2), 6);
        Check.due("punch(31 2^55, 12)", x.punch(31L << 55, 12), 18);
        long[] due = {1, 2, 3, 31, 0, 9, 31, 0};
        for (int i = 0; i < due.length; i++) {
            Check.does(x, 0, Check.I, 100, false);
            Check.due("symbol " + i, x.word(100), due[i]);
        }
        long state = Check.state(x);
        Check.due("punch(0, 0)", x.punch(0, 0), -3);
        Check.due("punch(0, 13)", x.punch(0, 13), -3);
        Check.due("punch(0, -1)", x.punch(0, -1), -3);
        Check.due("state", Check.state(x), state);
        Check.due("punch(0, 1)", x.punch(0, 1), 19);
        Check.due("count(7)", x.count(7), 0);
        Check.does(x, 0, Check.X, 0, false);
        for (int i = 31; i < 1000; i += 12) {
            Check.due("punch(0, 12)", x.punch(0, 12), i);
        }
        Check.due("count(1)", x.count(1), 991);
        Check.does(x, 0, Check.X, 0, false);
        Check.due("punch(0, 10)", x.punch(0, 10), -5);
        Check.due("punch(0, 13), OUTSIDE first", x.punch(0, 13), -3);
        Check.due("count(1) stays", x.count(1), 991);
        Check.due("count(7) behind refusals", x.count(7), 1);
        Check.due("punch(0, 9)", x.punch(0, 9), 1000);
        Check.due("punch(0, 1)", x.punch(0, 1), -5);
        Check.due("count(7)", x.count(7), 0);
    }

    private static void rewind() {
        Check.promise(12);
        TapeEngine x = new TapeEngine();
        Check.due("rewind(), empty", x.rewind(), 0);
        x.punch(7 * 32 + 8, 2);
        Check.does(x, 0, Check.I, 100, false);
        Check.due("count(2)", x.count(2), 1);
        Check.due("rewind()", x.rewind(), 1);
        Check.due("count(2)", x.count(2), 0);
        Check.due("count(7)", x.count(7), 0);
        Check.does(x, 0, Check.I, 101, false);
        Check.due("word(101), the first again", x.word(101), 7);
        Check.does(x, 0, Check.I, 101, false);
        Check.due("word(101)", x.word(101), 8);
        Check.due("rewind()", x.rewind(), 2);
    }

    private static void input() {
        Check.promise(18);
        TapeEngine x = new TapeEngine();
        x.punch(29 * 32 + 30, 2);
        x.storeLong(100, (1L << 35) - 1);
        x.storeLong(102, (1L << 35) - 1);
        Check.does(x, 0, Check.I, 100, false);
        Check.due("I SHORT: the others stay", x.wordLong(100), -(1L << 17) + 29);
        Check.does(x, 0, Check.I, 103, true);
        Check.due("I LONG", x.wordLong(102), 30);
    }

    private static void text() {
        Check.promise(13);
        TapeEngine x = new TapeEngine();
        Check.due("text(0), empty", x.text(0), -2);
        x.store(100, Check.V << 12);
        Check.does(x, 0, Check.O, 100, false);
        Check.due("text(0)", x.text(0), 'V');
        Check.due("text(1)", x.text(1), -2);
        Check.due("text(-1)", x.text(-1), -2);
        Check.due("text(400)", x.text(400), -2);
    }

    private static void printing() {
        Check.promise(18);
        TapeEngine x = new TapeEngine();
        String letters = "PQWERTYUIOJSZKFDHNMLXGABCV";
        String figures = "0123456789'\"+($;%,.)/<-?:=";
        printAll(x, letters);
        Check.due("count(3)", x.count(3), 26);
        print(x, Check.FIGS);
        Check.due("count(4), #", x.count(4), 1);
        Check.due("count(3), # writes nothing", x.count(3), 26);
        printAll(x, letters);
        for (int i = 0; i < 26; i++) {
            Check.due("letter " + i, x.text(i), letters.charAt(i));
            Check.due("figure " + i, x.text(26 + i), figures.charAt(i));
        }
        print(x, Check.LETS);
        Check.due("count(4), *", x.count(4), 0);
        print(x, Check.DOT);
        Check.due("count(3), * and . write nothing", x.count(3), 52);
        Check.due("count(5), . is PRINTED", x.count(5), Check.DOT);
        for (int shift = Check.LETS; shift >= Check.FIGS; shift -= 4) {
            print(x, shift);
            print(x, Check.CR);
            print(x, Check.LF);
            print(x, Check.SPACE);
        }
        long[] due = {13, 10, 32, 13, 10, 32};
        for (int i = 0; i < due.length; i++) {
            Check.due("text(" + (52 + i) + ")", x.text(52 + i), due[i]);
        }
    }

    private static void printAll(TapeEngine x, String letters) {
        for (int i = 0; i < letters.length(); i++) {
            print(x, Check.LETTERS.indexOf(letters.charAt(i)));
        }
    }

    /** Prints by a SHORT or, for odd symbols, by a LONG word. */
    private static void print(TapeEngine x, int symbol) {
        boolean isLong = (symbol & 1) == 1;
        x.storeLong(100, isLong ? (long) symbol << 30 : (long) symbol << 12);
        Check.does(x, 0, Check.O, 100, isLong);
    }

    private static void fetchPrinted() {
        Check.promise(18);
        TapeEngine x = new TapeEngine();
        x.storeLong(102, (1L << 35) - 1);
        Check.does(x, 0, Check.F, 102, false);
        Check.due("F without one", x.word(102), 4095);
        Check.due("F: the others stay", x.wordLong(102), -(1L << 17) + 4095);
        print(x, 21);
        x.storeLong(102, (1L << 35) - 1);
        Check.does(x, 0, Check.F, 102, true);
        Check.due("F LONG, word(103)", x.word(103), (21 << 12) | 4095);
        Check.due("F LONG, word(102)", x.word(102), 131071);
        Check.due("F LONG, the MIDDLE bit", (x.wordLong(102) >> 17) & 1, 1);
        Check.does(x, 0, Check.F, 103, false);
        Check.due("F SHORT", x.word(103), (21 << 12) | 4095);
    }

    private static void fullText() {
        Check.promise(19);
        TapeEngine x = new TapeEngine();
        x.order(0, Check.O, 100, false);
        x.order(1, Check.E, 0, false);
        x.store(100, Check.B << 12);
        Check.due("run(3000)", x.run(3000), 800);
        Check.due("why(), FULL", x.why(), 4);
        Check.due("count(3)", x.count(3), 400);
        Check.due("text(399)", x.text(399), 'B');
        Check.due("text(400)", x.text(400), -2);
        Check.due("done(O)", x.done(Check.O), 400);
        x.store(100, Check.FIGS << 12);
        Check.due("run(1), FULL also for #", x.run(1), 0);
        Check.due("why()", x.why(), 4);
        Check.due("count(4)", x.count(4), 0);
        Check.due("count(0)", x.count(0), 0);
        x.tear();
        Check.due("run(1)", x.run(1), 1);
    }

    private static void tear() {
        Check.promise(14);
        TapeEngine x = new TapeEngine();
        Check.due("tear(), empty", x.tear(), 0);
        print(x, Check.FIGS);
        print(x, 8);
        print(x, 9);
        Check.due("count(7)", x.count(7), 1);
        Check.due("tear()", x.tear(), 2);
        Check.due("text(0)", x.text(0), -2);
        Check.due("count(3)", x.count(3), 0);
        Check.due("count(4), FIGURES stay", x.count(4), 1);
        Check.due("count(5), the last stays", x.count(5), 9);
        Check.due("count(7)", x.count(7), 0);
        print(x, 7);
        Check.due("text(0)", x.text(0), '7');
    }
}
