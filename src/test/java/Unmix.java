/** H the other way round: finds the message, aux or seed that leads to a number that is wanted. */
final class Unmix {
    private Unmix() {}

    /** The a for which H(a, b) is h. */
    static long first(long h, long b) {
        return (before(h) - b) * oddInverse(6364136223846793005L) ^ 0x51ED270B7F4A7C15L;
    }

    /** The b for which H(a, b) is h. */
    static long second(long h, long a) {
        return before(h) - (a ^ 0x51ED270B7F4A7C15L) * 6364136223846793005L;
    }

    /** A message whose digest is z. */
    static long messageOf(long z) {
        return first(z << 34, 17);
    }

    /** The first u of H, from its answer. */
    private static long before(long h) {
        return unshift(unshift(h, 28) * oddInverse(0x2545F4914F6CDD1DL), 31);
    }

    /** The u for which u ^ (u >>> by) is v. */
    private static long unshift(long v, int by) {
        long u = v;
        for (int done = by; done < 64; done += by) {
            u = v ^ (u >>> by);
        }
        return u;
    }

    private static long oddInverse(long odd) {
        long inverse = odd;
        for (int bits = 3; bits < 64; bits *= 2) {
            inverse *= 2 - odd * inverse;
        }
        return inverse;
    }
}
