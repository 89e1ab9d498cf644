/**
 * The hashes undone: every step of MIX can be gone back, so entries can be found whose hashes are 0,
 * or are those of other entries.
 */
final class Unhash {
    // FIRST * FIRST_BACK and SECOND * SECOND_BACK are both 1 in longs that wrap.
    private static final long FIRST = 5871781006564002453L;
    private static final long FIRST_BACK = 2323857671730065597L;
    private static final long SECOND_BACK = -4930887936951138147L;

    private Unhash() { }

    /** x, where y = x ^ (x >>> shift). */
    private static long unshift(long y, int shift) {
        long x = y;
        for (int known = shift; known < 64; known += shift) {
            x = y ^ (x >>> shift);
        }
        return x;
    }

    private static long sumOf(long mixed) {
        return unshift(unshift(mixed, 31) * SECOND_BACK, 32);
    }

    /** a, where mixed = MIX(a, b). */
    private static long firstOf(long mixed, long b) {
        return unshift((sumOf(mixed) - b) * FIRST_BACK, 29);
    }

    /** b, where mixed = MIX(a, b). */
    private static long secondOf(long mixed, long a) {
        return sumOf(mixed) - (a ^ (a >>> 29)) * FIRST;
    }

    /** The entry whose leaf has this hash. */
    static long entryOf(long leaf) {
        return secondOf(firstOf(leaf, 1), 7);
    }

    /** The hash that stands to the right of l below a node with this hash. */
    static long rightOf(long node, long l) {
        return secondOf(firstOf(node, 2), l);
    }

    /** The hash that stands to the left of r below a node with this hash. */
    static long leftOf(long node, long r) {
        return firstOf(firstOf(node, 2), r);
    }
}
