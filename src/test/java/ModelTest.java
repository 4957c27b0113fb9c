import java.math.BigInteger;
import java.util.ArrayDeque;
import java.util.ArrayList;
import java.util.Arrays;
import java.util.List;
import java.util.TreeSet;

/** Runs of 512 calls, told alike to TapeEngine and to a slow model of whole numbers and whole copies. */
public final class ModelTest {
    private static final int OBJECTS = 3000;
    private static final int CALLS = 512;
    private static final int OPENINGS = 6;
    private static final int LOOKS = 3;
    private static final int[] CALLS_OF_LOOK = {140, 270, 220};
    private static final String LEGAL = "ASHVNTUCRLEGIOFXYZ";
    private static final int[] NO_ADDRESSES = {-1, 256};

    private long seed;
    private int made = 0;
    private final TapeEngine x = new TapeEngine();
    private final Model m = new Model();
    private final String told;

    public static void main(String[] args) {
        for (int object = 0; object < OBJECTS; object++) {
            new ModelTest(object).calls(object % OPENINGS, object / OPENINGS % LOOKS);
        }
        Check.ending();
    }

    private ModelTest(int object) {
        seed = object * 7919L + 12345;
        told = "object " + object;
    }

    private int below(int bound) {
        seed = seed * 6364136223846793005L + 1442695040888963407L;
        return (int) ((seed >>> 33) % bound);
    }

    private long bits(int number) {
        long bits = 0;
        for (int i = 0; i < number; i++) {
            bits = 2 * bits + below(2);
        }
        return below(4) == 0 ? bits & bits >> 9 : bits;
    }

    /** One of the values from least to most; sometimes the first or last of them, or the next outside. */
    private long near(long least, long most, long usual) {
        int kind = below(40);
        return kind == 0 ? least - 1 : kind == 1 ? most + 1 : kind == 2 ? least : kind == 3 ? most : usual;
    }

    private int address() {
        int kind = below(40);
        return kind < 2 ? NO_ADDRESSES[kind] : kind < 30 ? below(24) : below(256);
    }

    private int function() {
        return below(8) == 0 ? below(34) - 1 : Check.LETTERS.indexOf(LEGAL.charAt(below(18)));
    }

    private void calls(int opening, int look) {
        open(opening);
        while (made < CALLS - CALLS_OF_LOOK[look]) {
            int kind = below(150);
            if (kind < 50) {
                change(kind);
            } else if (kind < 100) {
                work(kind);
            } else {
                ask(kind);
            }
        }
        look(look);
        if (made > CALLS) {
            same("calls", made, CALLS);
        }
    }

    private void same(String call, long got, long want) {
        made++;
        Check.due(told + ", call " + made + ", " + call, got, want);
    }

    private void open(int opening) {
        switch (opening) {
            case 0 -> orders(60);
            case 1 -> printer();
            case 2 -> loader();
            case 3 -> jumps();
            case 4 -> marks();
            default -> fullTape();
        }
    }

    private void orders(int number) {
        for (int i = 0; i < number; i++) {
            change(0);
        }
    }

    /** A loop of O's over all SYMBOLS, in any order, and F's. */
    private void printer() {
        for (int i = 0; i < 32; i++) {
            order(100 + i, below(32), below(1024), false);
        }
        for (int n = 0; n < 40; n++) {
            order(n, below(20) == 0 ? Check.F : Check.O, 100 + below(32), below(2) == 0);
        }
        order(40, Check.E, 0, false);
        run(41 * below(24) + below(41));
        order(below(40), function(), below(24), false);
    }

    /** A tape of items, of any addresses, and some SYMBOLS that no item has. */
    private void loader() {
        for (int i = 30 + below(40); i > 0; i--) {
            boolean isOther = below(40) == 0;
            int number = isOther ? 12 : 10;
            punch(isOther ? bits(60) : item() << 25 | item(), number);
        }
        for (int i = 0; i < 6; i++) {
            store(41 + below(15), bits(17));
        }
        for (int i = 0; i < 6; i++) {
            same("load()", x.load(), m.load());
            askNumbers();
        }
    }

    /** E's, G's and X's over all addresses, so that much is COME TO. */
    private void jumps() {
        for (int i = 0; i < 120; i++) {
            int n = below(6) == 0 ? 255 - below(3) : below(256);
            int f = below(12) == 0 ? function() : below(2) == 0 ? Check.E : Check.G;
            order(n, f, below(8) == 0 ? 255 - below(3) : below(1024), below(2) == 0);
        }
        int from = below(256);
        same("reach(" + from + ")", x.reach(from), m.reach(from));
    }

    /** A loop of many ORDERS with MARKS in it. */
    private void marks() {
        for (int n = 0; n < 30; n++) {
            order(n, function(), below(24), below(2) == 0);
        }
        order(30, Check.E, below(30), false);
        order(31, Check.G, below(30), false);
        for (int i = 0; i < 10; i++) {
            mark(address(), below(8) > 0);
        }
    }

    private void fullTape() {
        order(0, Check.I, 100, false);
        order(1, Check.E, 0, false);
        for (int i = 0; i < 84; i++) {
            punch(bits(60), below(5) == 0 ? 1 + below(12) : 12);
        }
        run(2 * below(1010));
    }

    private void order(long n, long f, long a, boolean isLong) {
        String call = "order(" + n + ", " + f + ", " + a + ", " + isLong + ")";
        same(call, x.order((int) n, (int) f, (int) a, isLong), m.order((int) n, (int) f, (int) a, isLong));
    }

    private void store(long n, long v) {
        same("store(" + n + ", " + v + ")", x.store((int) n, (int) v), m.store((int) n, (int) v));
    }

    private void punch(long v, long n) {
        same("punch(" + v + ", " + n + ")", x.punch(v, (int) n), m.punch(v, (int) n));
    }

    private void run(long most) {
        same("run(" + most + ")", x.run((int) most), m.run((int) most));
    }

    private void mark(int n, boolean on) {
        same("mark(" + n + ", " + on + ")", x.mark(n, on), m.mark(n, on));
    }

    /** One of the calls behind which none can be taken back; kind is below 50. */
    private void change(int kind) {
        int n = address();
        if (kind < 14) {
            order(n, function(), near(0, 1023, below(3) == 0 ? below(1024) : below(24)), below(2) == 0);
        } else if (kind < 18) {
            store(n, near(0, 131071, bits(17)));
        } else if (kind < 24) {
            long v = near(0, (1L << 35) - 1, bits(35));
            same("storeLong(" + n + ", " + v + ")", x.storeLong(n, v), m.storeLong(n, v));
        } else if (kind < 28) {
            long top = near(-(1L << 34), (1L << 34) - 1, bits(35) - (1L << 34));
            long rest = near(0, (1L << 36) - 1, bits(36));
            same("set(" + top + ", " + rest + ")", x.set(top, rest), m.set(top, rest));
        } else if (kind < 37) {
            boolean isItems = below(2) == 0;
            punch(isItems ? item() << 25 | item() : bits(64), isItems ? 10 : near(1, 12, 1 + below(12)));
        } else if (kind < 39) {
            same("rewind()", x.rewind(), m.rewind());
        } else if (kind < 41) {
            same("tear()", x.tear(), m.tear());
        } else if (kind < 43) {
            same("load()", x.load(), m.load());
        } else if (kind < 48) {
            same("start(" + n + ")", x.start(n), m.start(n));
        } else {
            same("recall()", x.recall(), m.recall());
        }
    }

    /** One of the other calls that change something; kind is 50 to 99. */
    private void work(int kind) {
        int n = address();
        if (kind < 68) {
            run(near(0, 3000, below(8) == 0 ? below(3000) : below(20)));
        } else if (kind < 74) {
            mark(n, below(3) > 0);
        } else if (kind < 88) {
            same("back()", x.back(), m.back());
        } else if (kind < 97) {
            same("reach(" + n + ")", x.reach(n), m.reach(n));
        } else {
            same("image()", x.image(), m.image());
        }
    }

    /** One of the calls that change nothing; kind is 100 to 149. */
    private void ask(int kind) {
        int n = address();
        if (kind < 106) {
            same("word(" + n + ")", x.word(n), m.word(n));
        } else if (kind < 116) {
            same("wordLong(" + n + ")", x.wordLong(n), m.wordLong(n));
        } else if (kind < 120) {
            same("reached(" + n + ")", x.reached(n), m.reached(n));
        } else if (kind < 124) {
            int f = (int) near(0, 31, below(32));
            same("done(" + f + ")", x.done(f), m.done(f));
        } else if (kind < 128) {
            int i = (int) near(0, m.s.text.size() - 1, below(m.s.text.size() + 1));
            same("text(" + i + ")", x.text(i), m.text(i));
        } else if (kind < 140) {
            int what = (int) near(0, 8, below(9));
            same("count(" + what + ")", x.count(what), m.count(what));
        } else if (kind < 144) {
            same("top()", x.top(), m.top());
            same("rest()", x.rest(), m.rest());
        } else if (kind < 146) {
            same("why()", x.why(), m.why);
        } else if (kind < 148) {
            same("loaded()", x.loaded(), m.loaded);
        } else {
            same("alters()", x.alters(), m.alters());
        }
    }

    private void askNumbers() {
        for (int what = 0; what <= 8; what++) {
            same("count(" + what + ")", x.count(what), m.count(what));
        }
        same("loaded()", x.loaded(), m.loaded);
    }

    /** As much of an object as its last calls allow. */
    private void look(int look) {
        if (look == 0) {
            for (int n = 0; n < 256; n += 2) {
                same("wordLong(" + n + ")", x.wordLong(n), m.wordLong(n));
            }
        } else if (look == 1) {
            for (int n = 0; n < 256; n++) {
                same("reached(" + n + ")", x.reached(n), m.reached(n));
            }
        } else {
            for (int f = 0; f < 32; f++) {
                same("done(" + f + ")", x.done(f), m.done(f));
            }
            int size = m.s.text.size();
            for (int i = Math.max(0, size - 160); i <= size; i++) {
                same("text(" + i + ")", x.text(i), m.text(i));
            }
        }
        askNumbers();
        same("multiplier()", x.multiplier(), m.s.mult);
    }

    /** Five symbols of items that the loader mostly takes well. */
    private long item() {
        String[] items = {"AQWD.", "TEFF.", "GKAPF", "TRWPK", "OQIF.", "UQFP@", "IQPZF", "HTYYD", "EWWWK", "VPVQV"};
        int kind = below(30);
        String item = kind < 10 ? items[kind]
            : (kind < 14 ? "T" : "" + Check.LETTERS.charAt(below(32))) + number()
            + (kind < 14 ? 'K' : Check.LETTERS.charAt(17 + below(15)));
        long v = 0;
        for (int i = 0; i < 5; i++) {
            v = 32 * v + Check.LETTERS.indexOf(item.charAt(i));
        }
        return v;
    }

    /** Three figures, often an address near the highest one. */
    private String number() {
        int number = below(3) == 0 ? 250 + below(6) : below(3) == 0 ? 512 + 250 + below(6) : below(1000);
        StringBuilder figures = new StringBuilder();
        for (int part = 100; part > 0; part /= 10) {
            figures.append(Check.LETTERS.charAt(number / part % 10));
        }
        return figures.toString();
    }

    /** What an ORDER can change, and image() keeps. */
    private static final class State {
        private boolean[] bits = new boolean[128 * 35];
        private BigInteger ac = BigInteger.ZERO;
        private long mult = 0;
        private int next = 0;
        private List<Integer> tape = new ArrayList<>();
        private int place = 0;
        private List<Integer> text = new ArrayList<>();
        private boolean figures = false;
        private int last = -1;
        private int[] done = new int[32];

        private State copy() {
            State s = new State();
            s.bits = bits.clone();
            s.ac = ac;
            s.mult = mult;
            s.next = next;
            s.tape = new ArrayList<>(tape);
            s.place = place;
            s.text = new ArrayList<>(text);
            s.figures = figures;
            s.last = last;
            s.done = done.clone();
            return s;
        }

        private long field(int from, int number) {
            long v = 0;
            for (int i = number - 1; i >= 0; i--) {
                v = 2 * v + (bits[from + i] ? 1 : 0);
            }
            return v;
        }

        private void lay(int from, int number, long v) {
            for (int i = 0; i < number; i++) {
                bits[from + i] = (v >> i & 1) == 1;
            }
        }

        private static int from(int n) {
            return n / 2 * 35 + (n % 2 == 0 ? 0 : 18);
        }

        private int shortAt(int n) {
            return (int) field(from(n), 17);
        }

        private void layShort(int n, long v) {
            lay(from(n), 17, v);
        }

        private long longAt(int n) {
            long v = field(n / 2 * 35, 35);
            return v >= 1L << 34 ? v - (1L << 35) : v;
        }
    }

    private static final class Model {
        private static final BigInteger ALL = BigInteger.ONE.shiftLeft(71);
        private State s = new State();
        private State kept = null;
        private final ArrayDeque<State> ahead = new ArrayDeque<>();
        private final TreeSet<Integer> marks = new TreeSet<>();
        private TreeSet<Integer> comeTo = new TreeSet<>();
        private int loaded = -1;
        private int place = -1;
        private int why = -1;

        private static boolean unknown(int n) {
            return n < 0 || n > 255;
        }

        private int changed(int answer) {
            ahead.clear();
            return answer;
        }

        private int store(int n, int v) {
            if (unknown(n)) return -2;
            if (v < 0 || v > 131071) return -3;
            s.layShort(n, v);
            return changed(1);
        }

        private int storeLong(int n, long v) {
            if (unknown(n)) return -2;
            if (v < 0 || v >= 1L << 35) return -3;
            s.lay(n / 2 * 35, 35, v);
            return changed(1);
        }

        private int word(int n) {
            return unknown(n) ? -2 : s.shortAt(n);
        }

        private long wordLong(int n) {
            return unknown(n) ? Long.MIN_VALUE : s.longAt(n);
        }

        private int order(int n, int f, int a, boolean isLong) {
            if (unknown(n) || f < 0 || f > 31) return -2;
            if (a < 0 || a > 1023) return -3;
            s.layShort(n, f * 4096 + 2 * a + (isLong ? 1 : 0));
            return changed(1);
        }

        private long top() {
            return s.ac.shiftRight(36).longValueExact();
        }

        private long rest() {
            return s.ac.mod(BigInteger.ONE.shiftLeft(36)).longValueExact();
        }

        private int set(long top, long rest) {
            if (top < -(1L << 34) || top >= 1L << 34 || rest < 0 || rest >= 1L << 36) return -3;
            become(BigInteger.valueOf(top).shiftLeft(36).add(BigInteger.valueOf(rest)));
            return changed(1);
        }

        private void become(BigInteger v) {
            BigInteger r = v.mod(ALL);
            s.ac = r.testBit(70) ? r.subtract(ALL) : r;
        }

        private int punch(long v, int n) {
            if (n < 1 || n > 12) return -3;
            if (s.tape.size() + n > 1000) return -5;
            for (int i = n - 1; i >= 0; i--) s.tape.add((int) (v >> 5 * i & 31));
            return changed(s.tape.size());
        }

        private int rewind() {
            int was = s.place;
            s.place = 0;
            return changed(was);
        }

        private int text(int i) {
            return i < 0 || i >= s.text.size() ? -2 : s.text.get(i);
        }

        private int tear() {
            int was = s.text.size();
            s.text.clear();
            return changed(was);
        }

        private int symbol() {
            return s.place < s.tape.size() ? s.tape.get(s.place++) : -1;
        }

        private int load() {
            ahead.clear();
            place = 64;
            s.layShort(41, 0);
            s.layShort(43, 1);
            int words = 0;
            while (true) {
                int f = symbol();
                while (f == 16) f = symbol();
                if (f < 0) { loaded = 1; return words; }
                int n = 0;
                int e = symbol();
                for (; e >= 0 && e < 10; e = symbol()) n = (10 * n + e) % 1024;
                if (e < 0) { loaded = 2; return words; }
                char letter = Check.LETTERS.charAt(f);
                if (e >= 17) {
                    s.layShort(place, (4096 * f + 2 * n + s.shortAt(24 + e)) % 131072);
                    place = (place + 1) % 256;
                    words++;
                } else if (e == 14 && letter == 'T') {
                    place = n % 256;
                } else if (e == 14 && letter == 'G') {
                    s.layShort(42, 2 * place);
                } else if (e == 14 && letter == 'E') {
                    s.next = n % 256;
                    loaded = 0;
                    return words;
                } else {
                    loaded = 3;
                    return words;
                }
            }
        }

        private int start(int n) {
            if (unknown(n)) return -2;
            s.next = n;
            return changed(1);
        }

        private int run(int most) {
            if (most < 0 || most > 3000) return -3;
            why = 0;
            for (int i = 0; i < most; i++) {
                int order = s.shortAt(s.next);
                char f = Check.LETTERS.charAt(order / 4096);
                if (i > 0 && marks.contains(s.next)) why = 5;
                else if ("ASHVNTUCRLEGIOFXYZ".indexOf(f) < 0) why = 2;
                else if (f == 'I' && s.place == s.tape.size()) why = 3;
                else if (f == 'O' && s.text.size() == 400) why = 4;
                if (why > 0) return i;
                State was = s.copy();
                ahead.addLast(was);
                if (ahead.size() > 100) ahead.removeFirst();
                s.next = (s.next + 1) % 256;
                doIt(f, order, order / 2 % 256, order % 2);
                s.done[order / 4096]++;
                if (f == 'Z') {
                    why = 1;
                    return i + 1;
                }
            }
            return most;
        }

        private long signed(long v, int bits) {
            return v >= 1L << bits - 1 ? v - (1L << bits) : v;
        }

        private void doIt(char f, int order, int n, int length) {
            long c = length == 1 ? s.longAt(n) : signed(s.shortAt(n), 17) * (1L << 18);
            int at = length == 1 ? n / 2 * 35 : State.from(n);
            int size = length == 1 ? 35 : 17;
            BigInteger big = BigInteger.valueOf(c);
            BigInteger product = BigInteger.valueOf(s.mult).multiply(big).shiftLeft(2);
            int p = 1 + BigInteger.valueOf(order).getLowestSetBit();
            switch (f) {
                case 'A' -> become(s.ac.add(big.shiftLeft(36)));
                case 'S' -> become(s.ac.subtract(big.shiftLeft(36)));
                case 'H' -> s.mult = c;
                case 'V' -> become(s.ac.add(product));
                case 'N' -> become(s.ac.subtract(product));
                case 'T', 'U' -> {
                    s.lay(at, size, s.ac.mod(ALL).shiftRight(71 - size).longValueExact());
                    s.ac = f == 'T' ? BigInteger.ZERO : s.ac;
                }
                case 'C' -> become(s.ac.add(BigInteger.valueOf(s.mult).and(big).shiftLeft(36)));
                case 'R' -> become(s.ac.shiftRight(p));
                case 'L' -> become(s.ac.shiftLeft(p));
                case 'E' -> s.next = s.ac.signum() >= 0 ? n : s.next;
                case 'G' -> s.next = s.ac.signum() < 0 ? n : s.next;
                case 'I' -> s.lay(at, size, symbol());
                case 'O' -> print((int) s.field(at + size - 5, 5));
                case 'F' -> s.lay(at + size - 5, 5, Math.max(0, s.last));
                case 'Y' -> become(s.ac.add(BigInteger.ONE.shiftLeft(35)));
                default -> { }
            }
        }

        private void print(int symbol) {
            s.last = symbol;
            char letter = Check.LETTERS.charAt(symbol);
            int special = "*#.@&!".indexOf(letter);
            if (special == 0) s.figures = false;
            else if (special == 1) s.figures = true;
            else if (special >= 3) s.text.add(new int[] {13, 10, 32}[special - 3]);
            else if (special < 0 && !s.figures) s.text.add((int) letter);
            else if (special < 0 && symbol < 10) s.text.add('0' + symbol);
            else if (special < 0) s.text.add((int) "'\"+($;%,.)/<-?:=".charAt("JSZKFDHNMLXGABCV".indexOf(letter)));
        }

        private int mark(int n, boolean on) {
            if (unknown(n)) return -2;
            boolean was = marks.contains(n);
            if (on && !was && marks.size() == 8) return -5;
            if (on) marks.add(n);
            else marks.remove(n);
            return was ? 1 : 0;
        }

        private int back() {
            if (ahead.isEmpty()) return -4;
            s = ahead.removeLast();
            return ahead.size();
        }

        private int done(int f) {
            return f < 0 || f > 31 ? -2 : s.done[f];
        }

        private int reach(int n) {
            if (unknown(n)) return -2;
            comeTo = new TreeSet<>(Arrays.asList(n));
            for (int size = 0; size != comeTo.size();) {
                size = comeTo.size();
                for (int at : new ArrayList<>(comeTo)) {
                    int order = s.shortAt(at);
                    char f = Check.LETTERS.charAt(order / 4096);
                    if ("ASHVNTUCRLEGIOFXY".indexOf(f) >= 0) comeTo.add((at + 1) % 256);
                    if (f == 'E' || f == 'G') comeTo.add(order / 2 % 256);
                }
            }
            return comeTo.size();
        }

        private int reached(int i) {
            return unknown(i) ? -2 : comeTo.contains(i) ? 1 : 0;
        }

        private int alters() {
            for (int at : comeTo) {
                int order = s.shortAt(at);
                int n = order / 2 % 256;
                if ("TUIF".indexOf(Check.LETTERS.charAt(order / 4096)) < 0) continue;
                if (comeTo.contains(n) || order % 2 == 1 && comeTo.contains(n % 2 == 0 ? n + 1 : n - 1)) return at;
            }
            return -1;
        }

        private int image() {
            kept = s.copy();
            return 1;
        }

        private int recall() {
            if (kept == null) return -4;
            s = kept.copy();
            return changed(1);
        }

        private int count(int what) {
            int[] counts = {s.next, s.tape.size(), s.place, s.text.size(), s.figures ? 1 : 0, s.last,
                marks.size(), ahead.size(), place};
            return what < 0 || what > 8 ? -3 : counts[what];
        }
    }
}
