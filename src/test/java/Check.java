import java.io.IOException;
import java.nio.charset.StandardCharsets;
import java.nio.file.Files;
import java.nio.file.Path;

/** Counts answers that are not as due; each test ends with ending(). */
final class Check {
    static final int P = 0, Q = 1, W = 2, E = 3, R = 4, T = 5, Y = 6, U = 7, I = 8, O = 9, J = 10,
        FIGS = 11, S = 12, Z = 13, K = 14, LETS = 15, DOT = 16, F = 17, CR = 18, D = 19, SPACE = 20,
        H = 21, N = 22, M = 23, LF = 24, L = 25, X = 26, G = 27, A = 28, B = 29, C = 30, V = 31;
    static final String LETTERS = "PQWERTYUIOJ#SZK*.F@D!HNM&LXGABCV";

    private static final Path DOCUMENT = Path.of("..", "shared", "DOC.md");

    private static String by = "";
    private static int wrong = 0;

    private Check() {
    }

    /** Names the promise that the next answers are due by. */
    static void promise(int number) {
        by = "promise " + number;
    }

    /** Names the sentence that the next answers are due by; it must stand in the document. */
    static void sentence(String words) {
        by = "\"" + words + "\"";
        try {
            if (!Files.readString(DOCUMENT, StandardCharsets.UTF_8).contains(words)) {
                due("the document", 0, 1);
            }
        } catch (IOException e) {
            due("reading " + DOCUMENT, 0, 1);
        }
    }

    static void due(String call, long got, long want) {
        if (got != want) {
            wrong++;
            System.out.println(by + ": " + call + " answered " + got + ", due is " + want);
        }
    }

    static void ending() {
        System.out.println(wrong == 0 ? "all answers are as due" : wrong + " answers are not as due");
        if (wrong != 0) {
            System.exit(1);
        }
    }

    /** Punches symbols that are told by their letters. */
    static void punch(TapeEngine x, String letters) {
        for (int i = 0; i < letters.length(); i++) {
            x.punch(LETTERS.indexOf(letters.charAt(i)), 1);
        }
    }

    /** Lays one ORDER at n, sets the next ORDER to it and does it. */
    static int does(TapeEngine x, int n, int f, int a, boolean isLong) {
        x.order(n, f, a, isLong);
        x.start(n);
        return x.run(1);
    }

    static void acIs(String call, TapeEngine x, long top, long rest) {
        due(call + ", top()", x.top(), top);
        due(call + ", rest()", x.rest(), rest);
    }

    /**
     * One number of what can be asked without a change, for comparing two states of one object. It takes
     * some 180 calls; what is COME TO is told by Looks alone, as an object has no more than 512.
     */
    static long state(TapeEngine x) {
        long sum = 17;
        for (int n = 0; n < 256; n += 2) {
            sum = sum * 31 + x.wordLong(n);
        }
        for (int f = 0; f < 32; f++) {
            sum = sum * 31 + x.done(f);
        }
        for (int i = 0; i < x.count(3); i++) {
            sum = sum * 31 + x.text(i);
        }
        for (int what = 0; what <= 8; what++) {
            sum = sum * 31 + x.count(what);
        }
        sum = sum * 31 + x.top();
        sum = sum * 31 + x.rest();
        sum = sum * 31 + x.multiplier();
        sum = sum * 31 + x.loaded();
        sum = sum * 31 + x.why();
        return sum * 31 + x.alters();
    }
}
