import java.util.Arrays;

/**
 * The boundary cases of the document's terms, one test for each: what runs over, the least and the
 * greatest number of leaves, chains, places, longs and digits. Each value is held against Terms.
 */
public final class LeafSignerTermEdges {
    private static final long[] ENDS = {Long.MIN_VALUE, Long.MIN_VALUE + 1, -1, 0, 1, Long.MAX_VALUE};
    private static final int[] KINDS = {Integer.MIN_VALUE, -1, 0, 1, 5, Integer.MAX_VALUE};

    public static void main(String[] args) {
        theLimitOnCalls();
        longsRunOver();
        zeroComesIn();
        hashOfNoneToTwentyLongs();
        secretsAtTheEnds();
        publicAtTheEnds();
        heightOneToFour();
        chainsAndPlaces();
        theRootIsAlone();
        digestOfNoneToTwentyLongs();
        digestIsOfTheLeafToo();
        eachDigitHasItsPlace();
        digitsAllFifteen();
        digitsAllZero();
        theLackTogether();
        besideTheFirstAndTheLastLeaf();
        carriedOnFromFifteen();
        carriedOnFromZero();
        theConstants();
        Due.end();
    }

    private static void theLimitOnCalls() {
        Due.sentence("An object is used for at most 512 calls");
        LeafSigner x = new LeafSigner();
        Terms terms = new Terms(1, 2, 3, 4);
        for (int round = 0; round < 128; round++) {
            Due.due("begin, call " + (4 * round + 1), x.begin(1, 2, 3, 4), 1);
            Due.due("grow, call " + (4 * round + 2), x.grow(16), 0);
            Due.due("sign, call " + (4 * round + 3), x.sign(), 0);
            Due.due("node, call " + (4 * round + 4), x.node(4, 0, 1), terms.root().b());
        }
        LeafSigner y = new LeafSigner();
        for (int call = 1; call <= 512; call++) {
            Due.due("feed, call " + call, y.feed(call), call <= 20 ? call : LeafSigner.NONE);
        }
    }

    private static void longsRunOver() {
        Due.sentence("Longs run over");
        for (int kind : KINDS) {
            LeafSigner x = new LeafSigner();
            for (long first : ENDS) {
                for (long second : ENDS) {
                    feedAll(x, first, second);
                    dueHash(x, kind, first, second);
                }
            }
        }
    }

    private static void zeroComesIn() {
        Due.sentence(">>> moves bits down, 0 coming in");
        for (int half = 0; half < 2; half++) {
            LeafSigner x = new LeafSigner();
            for (int bit = 0; bit < 64; bit++) {
                long v = half == 0 ? 1L << bit : -1L << bit;
                feedAll(x, v);
                dueHash(x, 0, v);
            }
        }
    }

    private static void hashOfNoneToTwentyLongs() {
        Due.sentence("The HASH of some kind of n longs");
        for (int kind : KINDS) {
            LeafSigner x = new LeafSigner();
            long[] longs = new long[0];
            for (int n = 0; n <= 20; n++) {
                dueHash(x, kind, longs);
                longs = Arrays.copyOf(longs, n + 1);
                longs[n] = n % 2 == 0 ? Long.MAX_VALUE - n : Long.MIN_VALUE + n;
                x.feed(longs[n]);
            }
        }
    }

    private static void secretsAtTheEnds() {
        Due.sentence("The signer has two SECRET longs");
        for (long end : ENDS) {
            dueTree(end, 2, 3, 1);
            dueTree(1, end, 3, 1);
            dueTree(end, end, 3, 1);
        }
    }

    private static void publicAtTheEnds() {
        Due.sentence("and a PUBLIC one");
        for (long end : ENDS) {
            dueTree(1, 2, end, 1);
            dueSignature(1, 2, end, 1, 1);
        }
    }

    private static void heightOneToFour() {
        Due.sentence("a HEIGHT h, 1 to 4: LEAVES are numbered 0 to 2 to the h, less 1");
        for (int height = 1; height <= 4; height++) {
            dueTree(Long.MAX_VALUE, Long.MIN_VALUE, -1, height);
            dueSignature(Long.MAX_VALUE, Long.MIN_VALUE, -1, height, 0);
            dueSignature(Long.MAX_VALUE, Long.MIN_VALUE, -1, height, (1 << height) - 1);
        }
    }

    private static void chainsAndPlaces() {
        Due.sentence("A leaf has 35 CHAINS, numbered from 0: place 0 of a chain ..; place j + 1, up to 15");
        Terms terms = new Terms(7, 8, 9, 1);
        LeafSigner low = signedWithDigest(terms, 0, new Terms.Pair(0, 0));
        LeafSigner high = signedWithDigest(terms, 0, new Terms.Pair(-1, -1));
        for (int chain : new int[] {0, 1, 15, 16, 30, 31}) {
            duePart(low, chain, terms.place(0, chain, 0));
            duePart(high, chain, terms.place(0, chain, 15));
        }
        // The last chain is of a digit of the lack: 0 when each digit is 15, and 15 when one is 0.
        LeafSigner other = signedWithDigest(terms, 0, new Terms.Pair(-1, ~15L));
        duePart(high, 34, terms.place(0, 34, 0));
        duePart(other, 34, terms.place(0, 34, 15));
        Due.due("count(4)", low.count(4), 36);
    }

    private static void theRootIsAlone() {
        Due.sentence("The ROOT is node 0 of level h");
        for (int height = 1; height <= 4; height++) {
            Terms terms = new Terms(1, 2, 3, height);
            LeafSigner x = grown(1, 2, 3, height);
            Due.due("first half", x.node(height, 0, 0), terms.root().a());
            Due.due("second half", x.node(height, 0, 1), terms.root().b());
            Due.due("beside it", x.node(height, 1, 0), 0);
            Due.due("above it", x.node(height + 1, 0, 0), 0);
        }
    }

    private static void digestOfNoneToTwentyLongs() {
        Due.sentence("A MESSAGE is up to 20 longs. Its DIGEST .. is hash 5 of: .. the message's longs");
        Terms terms = new Terms(1, 2, 3, 1);
        for (int n = 0; n <= 20; n++) {
            LeafSigner x = grown(1, 2, 3, 1);
            long[] longs = new long[n];
            for (int i = 0; i < n; i++) {
                longs[i] = i % 2 == 0 ? Long.MIN_VALUE + i : Long.MAX_VALUE - i;
                x.feed(longs[i]);
            }
            dueDigits(x, 1, Terms.digits(digest(terms, 3, 1, longs)));
        }
    }

    private static void digestIsOfTheLeafToo() {
        Due.sentence("Its DIGEST with a leaf and a root is hash 5 of: public, leaf, both longs of the root");
        Terms terms = new Terms(1, 2, Long.MIN_VALUE, 4);
        for (int leaf : new int[] {0, 1, 14, 15}) {
            LeafSigner x = grown(1, 2, Long.MIN_VALUE, 4);
            x.feed(-1);
            dueDigits(x, leaf, Terms.digits(digest(terms, Long.MIN_VALUE, leaf, -1)));
        }
    }

    private static void eachDigitHasItsPlace() {
        Due.sentence("32 of 4 bits, of the first long, then of the second one, the highest bits first");
        Terms terms = new Terms(7, 8, 9, 1);
        for (int k = 0; k < 32; k++) {
            long bits = 15L << (60 - 4 * (k % 16));
            Terms.Pair alone = k < 16 ? new Terms.Pair(bits, 0) : new Terms.Pair(0, bits);
            LeafSigner x = grown(7, 8, 9, 1);
            feedAll(x, messageFor(terms, 1, alone));
            int[] want = new int[35];
            want[k] = 15;
            // What is lacking is 31 times 15, which is 1, 13 and 1 in digits of 4 bits.
            want[32] = 1;
            want[33] = 13;
            want[34] = 1;
            dueDigits(x, 1, want);
        }
    }

    private static void digitsAllFifteen() {
        Due.sentence("3 more, likewise of what all those lack to 15 together: none");
        dueLack(new Terms.Pair(-1, -1), 0, 0, 0);
    }

    private static void digitsAllZero() {
        Due.sentence("3 more, likewise of what all those lack to 15 together: all");
        dueLack(new Terms.Pair(0, 0), 1, 14, 0);
    }

    private static void theLackTogether() {
        Due.sentence("3 more, likewise of what all those lack to 15 together: each digit's end");
        dueLack(new Terms.Pair(-1, -2), 0, 0, 1);
        dueLack(new Terms.Pair(-1L >>> 4, -1), 0, 0, 15);
        dueLack(new Terms.Pair(-1L >>> 4, -2), 0, 1, 0);
        dueLack(new Terms.Pair(0, 0xFL << 60 | -1L >>> 8), 0, 15, 15);
        dueLack(new Terms.Pair(0, 0xFL << 60 | -1L >>> 8 ^ 1), 1, 0, 0);
        dueLack(new Terms.Pair(0, 1), 1, 13, 15);
    }

    private static void besideTheFirstAndTheLastLeaf() {
        Due.sentence("for each level below the root the node beside that which the leaf is, or is below");
        for (int height = 1; height <= 4; height++) {
            Terms terms = new Terms(1, 2, 3, height);
            int last = (1 << height) - 1;
            LeafSigner x = grown(1, 2, 3, height);
            signUpTo(x, 0);
            for (int level = 0; level < height; level++) {
                duePart(x, 35 + level, terms.node(level, 1));
            }
            signUpTo(x, last);
            for (int level = 0; level < height; level++) {
                duePart(x, 35 + level, terms.node(level, (last >> level) - 1));
            }
        }
    }

    private static void carriedOnFromFifteen() {
        Due.sentence("each place is carried on from its digit to 15: a digit of 15, so not at all");
        dueCarried(new Terms.Pair(-1, -1), 15);
    }

    private static void carriedOnFromZero() {
        Due.sentence("each place is carried on from its digit to 15: a digit of 0, so all the way");
        dueCarried(new Terms.Pair(0, 0), 0);
    }

    private static void dueCarried(Terms.Pair digest, int digit) {
        Terms terms = new Terms(7, 8, 9, 1);
        for (int leaf = 0; leaf < 2; leaf++) {
            LeafSigner x = signedWithDigest(terms, leaf, digest);
            Due.due("verify", x.verify(), 0);
            for (int chain : new int[] {0, 15, 16, 31}) {
                Terms.Pair other = terms.place(leaf, chain, digit == 15 ? 14 : 1);
                Terms.Pair own = terms.place(leaf, chain, digit);
                x.setPart(chain, 0, other.a());
                x.setPart(chain, 1, other.b());
                Due.due("verify with the next place of chain " + chain, x.verify(), 2);
                x.setPart(chain, 0, own.a());
                x.setPart(chain, 1, own.b());
                Due.due("verify with the place of chain " + chain, x.verify(), 0);
            }
        }
    }

    private static void theConstants() {
        Due.sentence("`NONE = -1`: There is none, or nothing is done. `USED = -2`: All leaves are used.");
        Due.due("NONE", LeafSigner.NONE, -1);
        Due.due("USED", LeafSigner.USED, -2);
    }

    private static void dueHash(LeafSigner x, int kind, long... longs) {
        Terms.Pair want = Terms.hash(kind, longs);
        String call = "hash " + kind + " of " + Arrays.toString(longs);
        Due.due(call, x.hash(kind, 0), want.a());
        Due.due(call, x.hash(kind, 1), want.b());
    }

    private static void dueTree(long one, long two, long open, int height) {
        Terms terms = new Terms(one, two, open, height);
        LeafSigner x = grown(one, two, open, height);
        for (int level = 0; level <= height; level++) {
            for (int i = 0; i < 1 << (height - level); i++) {
                String call = "node " + level + " " + i + " of " + one + " " + two + " " + open;
                Due.due(call, x.node(level, i, 0), terms.node(level, i).a());
                Due.due(call, x.node(level, i, 1), terms.node(level, i).b());
            }
        }
    }

    private static void dueSignature(long one, long two, long open, int height, int leaf) {
        Terms terms = new Terms(one, two, open, height);
        LeafSigner x = grown(one, two, open, height);
        signUpTo(x, leaf);
        int[] digits = Terms.digits(digest(terms, open, leaf));
        for (int chain = 0; chain < 35; chain++) {
            duePart(x, chain, terms.place(leaf, chain, digits[chain]));
        }
        x.tell(0, terms.root().a());
        x.tell(1, terms.root().b());
        Due.due("verify, leaf " + leaf, x.verify(), 0);
    }

    private static void duePart(LeafSigner x, int k, Terms.Pair want) {
        Due.due("part " + k, x.part(k, 0), want.a());
        Due.due("part " + k, x.part(k, 1), want.b());
    }

    private static void dueDigits(LeafSigner x, int leaf, int... wants) {
        for (int k = 0; k < wants.length; k++) {
            Due.due("digit " + leaf + " " + k, x.digit(leaf, k), wants[k]);
        }
    }

    private static void dueLack(Terms.Pair digest, int... wants) {
        Terms terms = new Terms(7, 8, 9, 1);
        LeafSigner x = signedWithDigest(terms, 1, digest);
        dueDigits(x, 1, Terms.digits(digest));
        for (int k = 0; k < 3; k++) {
            Due.due("digit " + (32 + k), x.digit(1, 32 + k), wants[k]);
            duePart(x, 32 + k, terms.place(1, 32 + k, wants[k]));
        }
        Due.due("verify", x.verify(), 0);
    }

    private static Terms.Pair digest(Terms terms, long open, int leaf, long... longs) {
        Terms.Pair state = Terms.start(5, 4 + longs.length);
        state = Terms.goOn(state, open, leaf, terms.root().a(), terms.root().b());
        return Terms.goOn(state, longs);
    }

    /** A message of two longs that has the digest wanted, when the public is 9. */
    private static long[] messageFor(Terms terms, int leaf, Terms.Pair digest) {
        Terms.Pair state = Terms.goOn(Terms.start(5, 6), 9, leaf, terms.root().a(), terms.root().b());
        return Terms.leading(state, digest);
    }

    /** A signer of the keys 7, 8, 9 and height 1 that knows its root and has signed with the leaf. */
    private static LeafSigner signedWithDigest(Terms terms, int leaf, Terms.Pair digest) {
        LeafSigner x = grown(7, 8, 9, 1);
        feedAll(x, messageFor(terms, leaf, digest));
        signUpTo(x, leaf);
        x.tell(0, terms.root().a());
        x.tell(1, terms.root().b());
        return x;
    }

    private static LeafSigner grown(long one, long two, long open, int height) {
        LeafSigner x = new LeafSigner();
        x.begin(one, two, open, height);
        x.grow(1 << height);
        return x;
    }

    private static void signUpTo(LeafSigner x, int leaf) {
        for (int next = x.count(2); next <= leaf; next++) {
            x.sign();
        }
    }

    private static void feedAll(LeafSigner x, long... longs) {
        x.reset();
        for (long v : longs) {
            x.feed(v);
        }
    }
}
