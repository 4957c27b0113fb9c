import java.util.Arrays;
import java.util.List;
import java.util.function.Consumer;
import java.util.function.Function;
import java.util.function.Supplier;

/** Looks at all of an object that can be asked; each look takes one object, and less than 512 calls. */
final class Looks {
    private static final List<Function<TapeEngine, long[]>> ALL = List.of(Looks::shorts, Looks::longs,
        Looks::numbers, Looks::reached, Looks::bytes, Looks::symbols, Looks::backs, Looks::marks,
        Looks::recalledShorts, Looks::recalledLongs, Looks::recalledNumbers, Looks::recalledBytes,
        Looks::recalledSymbols);
    private static final List<String> NAMES = List.of("SHORT words", "LONG words", "numbers", "COME TO",
        "THE TEXT", "THE TAPE", "what can be taken back", "MARKS", "kept SHORT words", "kept LONG words",
        "kept numbers", "kept TEXT", "kept TAPE");

    private Looks() {
    }

    /** What a call does must not be seen: all looks are the same with it and without it. */
    static void nothingChanges(String call, Supplier<TapeEngine> object, Consumer<TapeEngine> doing) {
        areSame(call, () -> {
            TapeEngine x = object.get();
            doing.accept(x);
            return x;
        }, object);
    }

    /** Two objects that were come to in two ways: all looks are the same. */
    static void areSame(String call, Supplier<TapeEngine> one, Supplier<TapeEngine> other) {
        for (int i = 0; i < ALL.size(); i++) {
            Check.due(call + ": the same " + NAMES.get(i), isSame(i, one, other) ? 1 : 0, 1);
        }
    }

    /** At least one look is another; so it is no blind look that finds two objects the same. */
    static void areNotSame(String call, Supplier<TapeEngine> one, Supplier<TapeEngine> other) {
        boolean isSame = true;
        for (int i = 0; i < ALL.size(); i++) {
            isSame = isSame && isSame(i, one, other);
        }
        Check.due(call + ": all the same", isSame ? 1 : 0, 0);
    }

    private static boolean isSame(int look, Supplier<TapeEngine> one, Supplier<TapeEngine> other) {
        return Arrays.equals(ALL.get(look).apply(one.get()), ALL.get(look).apply(other.get()));
    }

    static long[] shorts(TapeEngine x) {
        long[] seen = new long[256];
        for (int n = 0; n < 256; n++) {
            seen[n] = x.word(n);
        }
        return seen;
    }

    static long[] longs(TapeEngine x) {
        long[] seen = new long[128];
        for (int n = 0; n < 128; n++) {
            seen[n] = x.wordLong(2 * n);
        }
        return seen;
    }

    static long[] numbers(TapeEngine x) {
        long[] seen = new long[48];
        for (int f = 0; f < 32; f++) {
            seen[f] = x.done(f);
        }
        for (int what = 0; what <= 8; what++) {
            seen[32 + what] = x.count(what);
        }
        seen[41] = x.top();
        seen[42] = x.rest();
        seen[43] = x.multiplier();
        seen[44] = x.loaded();
        seen[45] = x.why();
        seen[46] = x.alters();
        return seen;
    }

    static long[] reached(TapeEngine x) {
        long[] seen = new long[256];
        for (int n = 0; n < 256; n++) {
            seen[n] = x.reached(n);
        }
        return seen;
    }

    static long[] bytes(TapeEngine x) {
        long[] seen = new long[x.count(3) + 1];
        for (int i = 0; i < seen.length; i++) {
            seen[i] = x.text(i);
        }
        return seen;
    }

    /** The last hundred SYMBOLS of THE TAPE, and its place. */
    static long[] symbols(TapeEngine x) {
        long[] seen = new long[101];
        seen[0] = x.rewind();
        int number = x.count(1);
        x.set(0, 0);
        x.order(0, Check.I, 200, false);
        x.order(1, Check.E, 0, false);
        x.start(0);
        for (int i = 0; i < number; i++) {
            if (i == 0 && number > 100) {
                x.run(2 * (number - 100));
                i = number - 100;
            }
            x.start(0);
            x.run(1);
            seen[1 + i % 100] = x.word(200);
        }
        return seen;
    }

    static long[] backs(TapeEngine x) {
        long[] seen = new long[800];
        for (int i = 0; i < 800 && x.back() >= 0; i += 8) {
            seen[i] = x.count(0);
            seen[i + 1] = x.count(2);
            seen[i + 2] = x.count(3);
            seen[i + 3] = x.count(7);
            seen[i + 4] = x.top();
            seen[i + 5] = x.rest();
            seen[i + 6] = x.multiplier();
            seen[i + 7] = x.wordLong(100);
        }
        return seen;
    }

    static long[] marks(TapeEngine x) {
        long[] seen = new long[256];
        for (int n = 0; n < 256; n++) {
            seen[n] = x.mark(n, false);
        }
        return seen;
    }

    private static long[] recalledShorts(TapeEngine x) {
        x.recall();
        return shorts(x);
    }

    private static long[] recalledLongs(TapeEngine x) {
        x.recall();
        return longs(x);
    }

    private static long[] recalledNumbers(TapeEngine x) {
        long answer = x.recall();
        long[] seen = numbers(x);
        seen[47] = answer;
        return seen;
    }

    private static long[] recalledBytes(TapeEngine x) {
        x.recall();
        return bytes(x);
    }

    private static long[] recalledSymbols(TapeEngine x) {
        x.recall();
        return symbols(x);
    }
}
