import java.math.BigInteger;

/**
 * The document's terms in numbers without an end, each cut down to 64 bits where the document says
 * that longs run over: so nothing here leans on what Java's own long does at its ends.
 */
final class Terms {
    static final int CHAINS = 35;
    static final int LAST_PLACE = 15;

    private static final BigInteger ALL = BigInteger.ONE.shiftLeft(64);
    private static final BigInteger FIRST_FACTOR = new BigInteger("BF58476D1CE4E5B9", 16);
    private static final BigInteger SECOND_FACTOR = new BigInteger("94D049BB133111EB", 16);

    private final long one;
    private final long two;
    private final long open;
    private final Pair[][] nodes;

    record Pair(long a, long b) {
        long half(int half) {
            return half == 0 ? a : b;
        }
    }

    Terms(long one, long two, long open, int height) {
        this.one = one;
        this.two = two;
        this.open = open;
        nodes = new Pair[height + 1][];
        for (int level = 0; level <= height; level++) {
            nodes[level] = new Pair[1 << (height - level)];
            for (int i = 0; i < nodes[level].length; i++) {
                nodes[level][i] = level == 0 ? leafValue(i) : over(level, i);
            }
        }
    }

    Pair node(int level, int i) {
        return nodes[level][i];
    }

    Pair root() {
        return nodes[nodes.length - 1][0];
    }

    Pair place(int leaf, int chain, int j) {
        Pair place = hash(1, one, two, leaf, chain);
        for (int at = 0; at < j; at++) {
            place = hash(2, open, leaf, chain, at, place.a(), place.b());
        }
        return place;
    }

    private Pair leafValue(int leaf) {
        Pair state = start(3, 2 + 2 * CHAINS);
        state = goOn(state, open, leaf);
        for (int chain = 0; chain < CHAINS; chain++) {
            Pair end = place(leaf, chain, LAST_PLACE);
            state = goOn(state, end.a(), end.b());
        }
        return state;
    }

    private Pair over(int level, int i) {
        Pair left = nodes[level - 1][2 * i];
        Pair right = nodes[level - 1][2 * i + 1];
        return hash(4, open, level, i, left.a(), left.b(), right.a(), right.b());
    }

    static Pair hash(int kind, long... longs) {
        return goOn(start(kind, longs.length), longs);
    }

    static Pair start(int kind, int n) {
        return new Pair(kind, n);
    }

    static Pair goOn(Pair state, long... longs) {
        long a = state.a();
        long b = state.b();
        for (long x : longs) {
            a = mixed(whole(a).xor(whole(x)));
            b = mixed(whole(b).add(whole(a)).mod(ALL));
        }
        return new Pair(a, b);
    }

    /** The hash is a small one and can be run backwards: the state before these longs came. */
    static Pair goBack(Pair state, long... longs) {
        long a = state.a();
        long b = state.b();
        for (int i = longs.length - 1; i >= 0; i--) {
            b = cut(unmixed(b).subtract(whole(a)));
            a = cut(unmixed(a).xor(whole(longs[i])));
        }
        return new Pair(a, b);
    }

    /** The two longs that lead from a state to the one wanted. */
    static long[] leading(Pair from, Pair to) {
        long b = cut(unmixed(to.b()).subtract(whole(to.a())));
        long a = cut(unmixed(b).subtract(whole(from.b())));
        return new long[] {
            cut(unmixed(a).xor(whole(from.a()))), cut(unmixed(to.a()).xor(whole(a)))};
    }

    static int[] digits(Pair digest) {
        int[] digits = new int[CHAINS];
        int lack = 0;
        for (int k = 0; k < 32; k++) {
            BigInteger half = whole(digest.half(k / 16));
            digits[k] = half.shiftRight(4 * (15 - k % 16)).intValue() & 15;
            lack += 15 - digits[k];
        }
        digits[32] = lack / 256;
        digits[33] = lack / 16 % 16;
        digits[34] = lack % 16;
        return digits;
    }

    private static long mixed(BigInteger x) {
        BigInteger y = x.xor(x.shiftRight(30)).multiply(FIRST_FACTOR).mod(ALL);
        BigInteger z = y.xor(y.shiftRight(27)).multiply(SECOND_FACTOR).mod(ALL);
        return z.xor(z.shiftRight(31)).longValue();
    }

    private static BigInteger unmixed(long mixed) {
        BigInteger z = unshifted(whole(mixed), 31).multiply(SECOND_FACTOR.modInverse(ALL)).mod(ALL);
        BigInteger y = unshifted(z, 27).multiply(FIRST_FACTOR.modInverse(ALL)).mod(ALL);
        return unshifted(y, 30);
    }

    /** What gives x when xored with itself moved down; by more than 21 bits, so thrice is none left. */
    private static BigInteger unshifted(BigInteger x, int bits) {
        return x.xor(x.shiftRight(bits)).xor(x.shiftRight(2 * bits));
    }

    private static BigInteger whole(long x) {
        return BigInteger.valueOf(x).mod(ALL);
    }

    private static long cut(BigInteger x) {
        return x.mod(ALL).longValue();
    }
}
