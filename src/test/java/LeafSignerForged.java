/**
 * The document's hash is a small one and can be run backwards, so a node beside the leaf can be found
 * that gives any root one likes. That alone reaches two cases: the root told that a new object has,
 * and a root that agrees with the one told in one half only.
 */
public final class LeafSignerForged {
    private static int wrong = 0;

    public static void main(String[] args) {
        promise1TheRootToldAtFirst();
        promise14OneHalfIsNotARoot();
        System.out.println(wrong == 0 ? "forged signatures are told apart" : wrong + " answers are not as due");
        if (wrong != 0) {
            System.exit(1);
        }
    }

    private static void promise1TheRootToldAtFirst() {
        LeafSigner x = signed();
        long[] beside = besideForBoth(stateAboveLeaf(x, 0, 0), 0, 0);
        setBeside(x, beside);
        due("1: verify by the root told at first", x.verify(), 0);
        x.tell(0, 1);
        due("1: by another first half", x.verify(), 2);
        x.tell(0, 0);
        x.tell(1, 1);
        due("1: by another second half", x.verify(), 2);
        x.tell(1, 0);
        due("1: by 0 and 0", x.verify(), 0);
        x.feed(0);
        due("1: another message", x.verify(), 2);
    }

    private static void promise14OneHalfIsNotARoot() {
        LeafSigner x = signed();
        long first = 123;
        long second = -456;
        x.tell(0, first);
        x.tell(1, second);
        long[] above = stateAboveLeaf(x, first, second);
        setBeside(x, besideForBoth(above, first, second));
        due("14: both halves", x.verify(), 0);
        setBeside(x, besideForBoth(above, first, second + 1));
        due("14: the first half alone", x.verify(), 2);
        setBeside(x, besideForBoth(above, first + 1, second));
        due("14: the second half alone", x.verify(), 2);
    }

    /** A new object, its keys 0 and its height 1, that has signed no message with leaf 0. */
    private static LeafSigner signed() {
        LeafSigner x = new LeafSigner();
        x.grow(2);
        x.sign();
        return x;
    }

    private static void setBeside(LeafSigner x, long[] beside) {
        x.setPart(35, 0, beside[0]);
        x.setPart(35, 1, beside[1]);
    }

    /** The root's hash as it stands when only the node beside leaf 0 is still to come. */
    private static long[] stateAboveLeaf(LeafSigner x, long first, long second) {
        long[] digest = hash(new long[] {5, 4}, 0, 0, first, second);
        long[] leaf = hash(new long[] {3, 72}, 0, 0);
        int lack = 0;
        for (int k = 0; k < 35; k++) {
            int d = (int) (k < 32 ? digest[k / 16] >>> (60 - k % 16 * 4) : lack >>> (34 - k) * 4) & 15;
            lack += k < 32 ? 15 - d : 0;
            long[] place = {x.part(k, 0), x.part(k, 1)};
            for (int j = d; j < 15; j++) {
                place = hash(new long[] {2, 6}, 0, 0, k, j, place[0], place[1]);
            }
            leaf = hash(leaf, place);
        }
        return hash(new long[] {4, 7}, 0, 1, 0, leaf[0], leaf[1]);
    }

    /** The two longs that lead from a state of the hash to the halves that are wanted. */
    private static long[] besideForBoth(long[] state, long first, long second) {
        long b = unmixed(second) - first;
        long a = unmixed(b) - state[1];
        return new long[] {unmixed(a) ^ state[0], unmixed(first) ^ a};
    }

    private static long[] hash(long[] state, long... longs) {
        long a = state[0];
        long b = state[1];
        for (long x : longs) {
            a = mixed(a ^ x);
            b = mixed(b + a);
        }
        return new long[] {a, b};
    }

    private static long mixed(long x) {
        x = (x ^ (x >>> 30)) * 0xBF58476D1CE4E5B9L;
        x = (x ^ (x >>> 27)) * 0x94D049BB133111EBL;
        return x ^ (x >>> 31);
    }

    private static long unmixed(long x) {
        x = (x ^ (x >>> 31) ^ (x >>> 62)) * inverse(0x94D049BB133111EBL);
        x = (x ^ (x >>> 27) ^ (x >>> 54)) * inverse(0xBF58476D1CE4E5B9L);
        return x ^ (x >>> 30) ^ (x >>> 60);
    }

    /** Newton's way: each step doubles the bits that are right, three of them at first. */
    private static long inverse(long odd) {
        long guess = odd;
        for (int step = 0; step < 5; step++) {
            guess *= 2 - odd * guess;
        }
        return guess;
    }

    private static void due(String call, long got, long want) {
        if (got != want) {
            wrong++;
            System.out.println("promise " + call + " answered " + got + ", due is " + want);
        }
    }
}
