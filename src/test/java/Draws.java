import java.util.function.IntPredicate;

/** The draws by a seed, in numbers wide enough that nothing wraps by itself. */
final class Draws {
    private static final long TWO_32 = 1L << 32;

    private Draws() {
    }

    /** The n-th draw (from 1): 0 .. 65535. */
    static int nth(int seed, int n) {
        long z = Math.floorMod((long) seed, TWO_32);
        for (int i = 0; i < n; i++) {
            z = (1664525 * z + 1013904223) % TWO_32;
        }
        return (int) (z / 65536);
    }

    /** The n-th draw, taken % 100. */
    static int ofHundred(int seed, int n) {
        return nth(seed, n) % 100;
    }

    /** The next seed from a given one on that is as wished. */
    static int seedFrom(int first, IntPredicate wished) {
        for (int seed = first; seed < first + 10_000_000; seed++) {
            if (wished.test(seed)) {
                return seed;
            }
        }
        throw new IllegalStateException("no such seed");
    }
}
