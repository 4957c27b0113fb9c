import java.math.BigInteger;
import java.util.ArrayDeque;
import java.util.ArrayList;
import java.util.Arrays;
import java.util.List;
import java.util.TreeSet;

/** Long runs of calls, told alike to TapeEngine and to a slow model of whole numbers and whole copies. */
public final class ModelTest {
    private static final int OBJECTS = 400;
    private static final int CALLS = 512;
    private static final int ASKED_BETWEEN = 8;

    private long seed;
    private TapeEngine x;
    private Model m;
    private String told;

    public static void main(String[] args) {
        for (int object = 0; object < OBJECTS; object++) {
            new ModelTest(object).calls();
        }
        Check.ending();
    }

    private ModelTest(int object) {
        seed = object * 7919L + 12345;
        x = new TapeEngine();
        m = new Model();
        told = "object " + object;
    }

    private int below(int bound) {
        seed = seed * 6364136223846793005L + 1442695040888963407L;
        return (int) ((seed >>> 33) % bound);
    }

    private long bits(int number) {
        long bits = 0;
        for (int i = 0; i < number; i++) {
            bits = 2 * bits + below(2);
        }
        return below(4) == 0 ? bits & bits >> 9 : bits;
    }

    private int address() {
        int kind = below(40);
        return kind == 0 ? -1 : kind == 1 ? 256 : kind < 30 ? below(24) : below(256);
    }

    private int function() {
        String usual = "ASHVNTUCRLEGIOFXYZ";
        return below(8) == 0 ? below(34) - 1 : Check.LETTERS.indexOf(usual.charAt(below(18)));
    }

    private void calls() {
        for (int i = 0; i < 60; i++) {
            oneOf(0);
        }
        for (int call = 60; call < CALLS; call++) {
            oneOf(below(100));
            if (call % ASKED_BETWEEN == 0) {
                askAll();
            }
        }
        askAll();
    }

    private void askAll() {
        for (int n = -1; n <= 256; n++) {
            same("word(" + n + ")", x.word(n), m.word(n));
            same("wordLong(" + n + ")", x.wordLong(n), m.wordLong(n));
            same("reached(" + n + ")", x.reached(n), m.reached(n));
        }
        for (int f = -1; f <= 32; f++) {
            same("done(" + f + ")", x.done(f), m.done(f));
        }
        for (int i = -1; i <= m.s.text.size(); i++) {
            same("text(" + i + ")", x.text(i), m.text(i));
        }
        for (int what = -1; what <= 9; what++) {
            same("count(" + what + ")", x.count(what), m.count(what));
        }
        same("top()", x.top(), m.top());
        same("rest()", x.rest(), m.rest());
        same("multiplier()", x.multiplier(), m.s.mult);
        same("loaded()", x.loaded(), m.loaded);
        same("why()", x.why(), m.why);
        same("alters()", x.alters(), m.alters());
    }

    private void same(String call, long got, long want) {
        Check.due(told + ": " + call, got, want);
    }

    private void oneOf(int kind) {
        int n = address();
        if (kind < 12) {
            int f = function();
            int a = below(30) == 0 ? 1024 : below(3) == 0 ? below(1024) : below(24);
            boolean isLong = below(2) == 0;
            same("order(" + n + "," + f + "," + a + ")", x.order(n, f, a, isLong), m.order(n, f, a, isLong));
        } else if (kind < 16) {
            int v = below(20) == 0 ? 131072 : (int) bits(17);
            same("store(" + n + "," + v + ")", x.store(n, v), m.store(n, v));
        } else if (kind < 22) {
            long v = below(20) == 0 ? 1L << 35 : bits(35);
            same("storeLong(" + n + "," + v + ")", x.storeLong(n, v), m.storeLong(n, v));
        } else if (kind < 26) {
            long top = bits(35) - (1L << 34) - (below(40) == 0 ? 1L << 30 : 0);
            long rest = bits(36) + (below(40) == 0 ? 1L << 35 : 0);
            same("set(" + top + "," + rest + ")", x.set(top, rest), m.set(top, rest));
        } else if (kind < 36) {
            long v = below(2) == 0 ? bits(60) : items();
            int many = below(30) == 0 ? 13 : 1 + below(12);
            same("punch(" + v + "," + many + ")", x.punch(v, many), m.punch(v, many));
        } else if (kind < 40) {
            same("rewind()", x.rewind(), m.rewind());
        } else if (kind < 42) {
            same("tear()", x.tear(), m.tear());
        } else if (kind < 46) {
            same("load()", x.load(), m.load());
        } else if (kind < 52) {
            same("start(" + n + ")", x.start(n), m.start(n));
        } else if (kind < 66) {
            int most = below(20) == 0 ? 3001 : below(8) == 0 ? below(3000) : below(20);
            same("run(" + most + ")", x.run(most), m.run(most));
        } else if (kind < 72) {
            boolean on = below(3) > 0;
            same("mark(" + n + "," + on + ")", x.mark(n, on), m.mark(n, on));
        } else if (kind < 86) {
            same("back()", x.back(), m.back());
        } else if (kind < 94) {
            same("reach(" + n + ")", x.reach(n), m.reach(n));
        } else if (kind < 97) {
            same("image()", x.image(), m.image());
        } else {
            same("recall()", x.recall(), m.recall());
        }
    }

    /** Twelve symbols of items that the loader takes well. */
    private long items() {
        String[] items = {"AQWD", "TEFF", "GKXF", "TRK.", "OQIF", "UQFP", "I.ZF", "HTYD", "EWWK", "VPV.", "..X@"};
        long v = 0;
        for (int i = 0; i < 3; i++) {
            String item = items[below(items.length)];
            for (int j = 0; j < 4; j++) {
                v = 32 * v + Check.LETTERS.indexOf(item.charAt(j));
            }
        }
        return v;
    }

    /** What an ORDER can change, and image() keeps. */
    private static final class State {
        private boolean[] bits = new boolean[128 * 35];
        private BigInteger ac = BigInteger.ZERO;
        private long mult = 0;
        private int next = 0;
        private List<Integer> tape = new ArrayList<>();
        private int place = 0;
        private List<Integer> text = new ArrayList<>();
        private boolean figures = false;
        private int last = -1;
        private int[] done = new int[32];

        private State copy() {
            State s = new State();
            s.bits = bits.clone();
            s.ac = ac;
            s.mult = mult;
            s.next = next;
            s.tape = new ArrayList<>(tape);
            s.place = place;
            s.text = new ArrayList<>(text);
            s.figures = figures;
            s.last = last;
            s.done = done.clone();
            return s;
        }

        private long field(int from, int number) {
            long v = 0;
            for (int i = number - 1; i >= 0; i--) {
                v = 2 * v + (bits[from + i] ? 1 : 0);
            }
            return v;
        }

        private void lay(int from, int number, long v) {
            for (int i = 0; i < number; i++) {
                bits[from + i] = (v >> i & 1) == 1;
            }
        }

        private static int from(int n) {
            return n / 2 * 35 + (n % 2 == 0 ? 0 : 18);
        }

        private int shortAt(int n) {
            return (int) field(from(n), 17);
        }

        private void layShort(int n, long v) {
            lay(from(n), 17, v);
        }

        private long longAt(int n) {
            long v = field(n / 2 * 35, 35);
            return v >= 1L << 34 ? v - (1L << 35) : v;
        }
    }

    private static final class Model {
        private static final BigInteger ALL = BigInteger.ONE.shiftLeft(71);
        private State s = new State();
        private State kept = null;
        private final ArrayDeque<State> ahead = new ArrayDeque<>();
        private final TreeSet<Integer> marks = new TreeSet<>();
        private TreeSet<Integer> comeTo = new TreeSet<>();
        private int loaded = -1;
        private int place = -1;
        private int why = -1;

        private static boolean unknown(int n) {
            return n < 0 || n > 255;
        }

        private int changed(int answer) {
            ahead.clear();
            return answer;
        }

        private int store(int n, int v) {
            if (unknown(n)) return -2;
            if (v < 0 || v > 131071) return -3;
            s.layShort(n, v);
            return changed(1);
        }

        private int storeLong(int n, long v) {
            if (unknown(n)) return -2;
            if (v < 0 || v >= 1L << 35) return -3;
            s.lay(n / 2 * 35, 35, v);
            return changed(1);
        }

        private int word(int n) {
            return unknown(n) ? -2 : s.shortAt(n);
        }

        private long wordLong(int n) {
            return unknown(n) ? Long.MIN_VALUE : s.longAt(n);
        }

        private int order(int n, int f, int a, boolean isLong) {
            if (unknown(n) || f < 0 || f > 31) return -2;
            if (a < 0 || a > 1023) return -3;
            s.layShort(n, f * 4096 + 2 * a + (isLong ? 1 : 0));
            return changed(1);
        }

        private long top() {
            return s.ac.shiftRight(36).longValueExact();
        }

        private long rest() {
            return s.ac.mod(BigInteger.ONE.shiftLeft(36)).longValueExact();
        }

        private int set(long top, long rest) {
            if (top < -(1L << 34) || top >= 1L << 34 || rest < 0 || rest >= 1L << 36) return -3;
            become(BigInteger.valueOf(top).shiftLeft(36).add(BigInteger.valueOf(rest)));
            return changed(1);
        }

        private void become(BigInteger v) {
            BigInteger r = v.mod(ALL);
            s.ac = r.testBit(70) ? r.subtract(ALL) : r;
        }

        private int punch(long v, int n) {
            if (n < 1 || n > 12) return -3;
            if (s.tape.size() + n > 1000) return -5;
            for (int i = n - 1; i >= 0; i--) s.tape.add((int) (v >> 5 * i & 31));
            return changed(s.tape.size());
        }

        private int rewind() {
            int was = s.place;
            s.place = 0;
            return changed(was);
        }

        private int text(int i) {
            return i < 0 || i >= s.text.size() ? -2 : s.text.get(i);
        }

        private int tear() {
            int was = s.text.size();
            s.text.clear();
            return changed(was);
        }

        private int symbol() {
            return s.place < s.tape.size() ? s.tape.get(s.place++) : -1;
        }

        private int load() {
            ahead.clear();
            place = 64;
            s.layShort(41, 0);
            s.layShort(43, 1);
            int words = 0;
            while (true) {
                int f = symbol();
                while (f == 16) f = symbol();
                if (f < 0) { loaded = 1; return words; }
                int n = 0;
                int e = symbol();
                for (; e >= 0 && e < 10; e = symbol()) n = (10 * n + e) % 1024;
                if (e < 0) { loaded = 2; return words; }
                char letter = Check.LETTERS.charAt(f);
                if (e >= 17) {
                    s.layShort(place, (4096 * f + 2 * n + s.shortAt(24 + e)) % 131072);
                    place = (place + 1) % 256;
                    words++;
                } else if (e == 14 && letter == 'T') {
                    place = n % 256;
                } else if (e == 14 && letter == 'G') {
                    s.layShort(42, 2 * place);
                } else if (e == 14 && letter == 'E') {
                    s.next = n % 256;
                    loaded = 0;
                    return words;
                } else {
                    loaded = 3;
                    return words;
                }
            }
        }

        private int start(int n) {
            if (unknown(n)) return -2;
            s.next = n;
            return changed(1);
        }

        private int run(int most) {
            if (most < 0 || most > 3000) return -3;
            why = 0;
            for (int i = 0; i < most; i++) {
                int order = s.shortAt(s.next);
                char f = Check.LETTERS.charAt(order / 4096);
                if (i > 0 && marks.contains(s.next)) why = 5;
                else if ("ASHVNTUCRLEGIOFXYZ".indexOf(f) < 0) why = 2;
                else if (f == 'I' && s.place == s.tape.size()) why = 3;
                else if (f == 'O' && s.text.size() == 400) why = 4;
                if (why > 0) return i;
                State was = s.copy();
                ahead.addLast(was);
                if (ahead.size() > 100) ahead.removeFirst();
                s.next = (s.next + 1) % 256;
                doIt(f, order, order / 2 % 256, order % 2);
                s.done[order / 4096]++;
                if (f == 'Z') {
                    why = 1;
                    return i + 1;
                }
            }
            return most;
        }

        private long signed(long v, int bits) {
            return v >= 1L << bits - 1 ? v - (1L << bits) : v;
        }

        private void doIt(char f, int order, int n, int length) {
            long c = length == 1 ? s.longAt(n) : signed(s.shortAt(n), 17) * (1L << 18);
            int at = length == 1 ? n / 2 * 35 : State.from(n);
            int size = length == 1 ? 35 : 17;
            BigInteger big = BigInteger.valueOf(c);
            BigInteger product = BigInteger.valueOf(s.mult).multiply(big).shiftLeft(2);
            int p = 1 + BigInteger.valueOf(order).getLowestSetBit();
            switch (f) {
                case 'A' -> become(s.ac.add(big.shiftLeft(36)));
                case 'S' -> become(s.ac.subtract(big.shiftLeft(36)));
                case 'H' -> s.mult = c;
                case 'V' -> become(s.ac.add(product));
                case 'N' -> become(s.ac.subtract(product));
                case 'T', 'U' -> {
                    s.lay(at, size, s.ac.mod(ALL).shiftRight(71 - size).longValueExact());
                    s.ac = f == 'T' ? BigInteger.ZERO : s.ac;
                }
                case 'C' -> become(s.ac.add(BigInteger.valueOf(s.mult).and(big).shiftLeft(36)));
                case 'R' -> become(s.ac.shiftRight(p));
                case 'L' -> become(s.ac.shiftLeft(p));
                case 'E' -> s.next = s.ac.signum() >= 0 ? n : s.next;
                case 'G' -> s.next = s.ac.signum() < 0 ? n : s.next;
                case 'I' -> s.lay(at, size, symbol());
                case 'O' -> print((int) s.field(at + size - 5, 5));
                case 'F' -> s.lay(at + size - 5, 5, Math.max(0, s.last));
                case 'Y' -> become(s.ac.add(BigInteger.ONE.shiftLeft(35)));
                default -> { }
            }
        }

        private void print(int symbol) {
            s.last = symbol;
            char letter = Check.LETTERS.charAt(symbol);
            int special = "*#.@&!".indexOf(letter);
            if (special == 0) s.figures = false;
            else if (special == 1) s.figures = true;
            else if (special >= 3) s.text.add(new int[] {13, 10, 32}[special - 3]);
            else if (special < 0 && !s.figures) s.text.add((int) letter);
            else if (special < 0 && symbol < 10) s.text.add('0' + symbol);
            else if (special < 0) s.text.add((int) "'\"+($;%,.)/<-?:=".charAt("JSZKFDHNMLXGABCV".indexOf(letter)));
        }

        private int mark(int n, boolean on) {
            if (unknown(n)) return -2;
            boolean was = marks.contains(n);
            if (on && !was && marks.size() == 8) return -5;
            if (on) marks.add(n);
            else marks.remove(n);
            return was ? 1 : 0;
        }

        private int back() {
            if (ahead.isEmpty()) return -4;
            s = ahead.removeLast();
            return ahead.size();
        }

        private int done(int f) {
            return f < 0 || f > 31 ? -2 : s.done[f];
        }

        private int reach(int n) {
            if (unknown(n)) return -2;
            comeTo = new TreeSet<>(Arrays.asList(n));
            for (int size = 0; size != comeTo.size();) {
                size = comeTo.size();
                for (int at : new ArrayList<>(comeTo)) {
                    int order = s.shortAt(at);
                    char f = Check.LETTERS.charAt(order / 4096);
                    if ("ASHVNTUCRLEGIOFXY".indexOf(f) >= 0) comeTo.add((at + 1) % 256);
                    if (f == 'E' || f == 'G') comeTo.add(order / 2 % 256);
                }
            }
            return comeTo.size();
        }

        private int reached(int i) {
            return unknown(i) ? -2 : comeTo.contains(i) ? 1 : 0;
        }

        private int alters() {
            for (int at : comeTo) {
                int order = s.shortAt(at);
                int n = order / 2 % 256;
                if ("TUIF".indexOf(Check.LETTERS.charAt(order / 4096)) < 0) continue;
                if (comeTo.contains(n) || order % 2 == 1 && comeTo.contains(n % 2 == 0 ? n + 1 : n - 1)) return at;
            }
            return -1;
        }

        private int image() {
            kept = s.copy();
            return 1;
        }

        private int recall() {
            if (kept == null) return -4;
            s = kept.copy();
            return changed(1);
        }

        private int count(int what) {
            int[] counts = {s.next, s.tape.size(), s.place, s.text.size(), s.figures ? 1 : 0, s.last,
                marks.size(), ahead.size(), place};
            return what < 0 || what > 8 ? -3 : counts[what];
        }
    }
}
