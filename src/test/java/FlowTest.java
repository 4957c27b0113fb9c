/** Promises 23 to 25: what may be come to, and what alters it. */
public final class FlowTest {
    public static void main(String[] args) {
        reach();
        reachOfEach();
        reached();
        alters();
        altersOfEach();
        Check.ending();
    }

    private static void reach() {
        Check.promise(23);
        TapeEngine x = new TapeEngine();
        Check.due("reach(0), ILLEGAL", x.reach(0), 1);
        Check.due("reach(-1)", x.reach(-1), -2);
        Check.due("reach(256)", x.reach(256), -2);
        x.order(0, Check.E, 10, false);
        x.order(1, Check.G, 256 + 20, true);
        x.order(2, Check.Z, 0, false);
        x.order(10, Check.X, 0, false);
        x.order(11, Check.G, 0, false);
        x.order(20, Check.E, 20, false);
        Check.due("reach(0)", x.reach(0), 8);
        int[] comeTo = {0, 1, 2, 10, 11, 12, 20, 21};
        for (int n = 0, i = 0; n < 256; n++) {
            boolean is = i < comeTo.length && comeTo[i] == n;
            i += is ? 1 : 0;
            Check.due("reached(" + n + ")", x.reached(n), is ? 1 : 0);
        }
        Check.due("reach(2), Z", x.reach(2), 1);
        x.order(255, Check.X, 0, false);
        Check.due("reach(255), 0 behind 255", x.reach(255), 9);
        x = new TapeEngine();
        for (int n = 0; n < 256; n++) {
            x.order(n, Check.E, (n * 7) & 255, false);
        }
        Check.due("reach(77), all", x.reach(77), 256);
        Check.due("count(0) stays", x.count(0), 0);
    }

    private static void reachOfEach() {
        Check.promise(23);
        String goesOn = "ASHVNTUCRLIOFXY";
        for (int f = 0; f < 32; f++) {
            TapeEngine x = new TapeEngine();
            x.order(5, f, 100, false);
            char letter = Check.LETTERS.charAt(f);
            int due = letter == 'E' || letter == 'G' ? 3 : goesOn.indexOf(letter) >= 0 ? 2 : 1;
            Check.due("reach(5), FUNCTION " + letter, x.reach(5), due);
        }
    }

    private static void reached() {
        Check.promise(24);
        TapeEngine x = new TapeEngine();
        Check.due("reached(0), without one", x.reached(0), 0);
        Check.due("reached(-1)", x.reached(-1), -2);
        Check.due("reached(256)", x.reached(256), -2);
        x.reach(9);
        Check.due("reached(9)", x.reached(9), 1);
        x.reach(256);
        Check.due("reached(9), behind a refusal", x.reached(9), 1);
        x.order(9, Check.X, 0, false);
        Check.due("reached(10), of the latest reach()", x.reached(10), 0);
        x.image();
        x.reach(30);
        x.recall();
        Check.due("reached(9)", x.reached(9), 0);
        Check.due("reached(30)", x.reached(30), 1);
    }

    private static void alters() {
        Check.promise(25);
        TapeEngine x = new TapeEngine();
        x.order(0, Check.T, 2, false);
        Check.due("alters(), without reach()", x.alters(), -1);
        x.order(1, Check.U, 0, false);
        Check.due("reach(0)", x.reach(0), 3);
        Check.due("alters(), the least", x.alters(), 0);
        x.order(0, Check.T, 3, false);
        Check.due("alters(), by THE STORE as it is now", x.alters(), 1);
        x.order(1, Check.A, 0, false);
        Check.due("alters(), A writes none", x.alters(), -1);
        x.order(2, Check.X, 0, false);
        Check.due("3 is not COME TO at the latest reach()", x.alters(), -1);
        x.reach(0);
        Check.due("alters()", x.alters(), 0);
        x.order(0, Check.X, 0, false);
        x.order(100, Check.T, 0, false);
        Check.due("one that is not COME TO", x.alters(), -1);
        x.order(2, Check.T, 512 + 2, false);
        Check.due("bits above the ADDRESS", x.alters(), 2);
        x.reach(256);
        Check.due("alters(), behind a refusal", x.alters(), 2);
        x.reach(50);
        Check.due("alters(), of the latest reach()", x.alters(), -1);
    }

    private static void altersOfEach() {
        Check.promise(25);
        for (int f = 0; f < 32; f++) {
            boolean writes = "TUIF".indexOf(Check.LETTERS.charAt(f)) >= 0;
            for (int a = 4; a < 8; a++) {
                for (int length = 0; length < 2; length++) {
                    TapeEngine x = new TapeEngine();
                    x.order(5, f, a, length == 1);
                    x.order(6, Check.Z, 0, false);
                    x.reach(5);
                    // 5 and 6 are COME TO; a LONG one at 4 or 7 writes 5 or 6, too
                    boolean hits = length == 1 || a == 5 || a == 6;
                    String call = "FUNCTION " + f + ", " + a + ", LENGTH " + length;
                    Check.due(call, x.alters(), writes && hits ? 5 : -1);
                }
            }
        }
    }
}
