/**
 * The document's hash can be run backwards, so a node beside the leaf can be found that gives any
 * root one likes. That alone reaches what no honest signature does: the root told that a new object
 * has, roots at both ends of long, and a root that agrees with the one told in one half only.
 */
public final class LeafSignerForged {
    private static final int NODE_KIND = 4;
    private static final long OPEN = 9;

    public static void main(String[] args) {
        theRootToldAtFirst();
        theRootToldStaysWhenBegun();
        rootsAtTheEndsOfLong();
        oneHalfIsNotARoot();
        eachLeafOfEachHeight();
        Due.end();
    }

    private static void theRootToldAtFirst() {
        Due.sentence("1: the root told 0 and 0");
        LeafSigner x = new LeafSigner();
        x.grow(2);
        x.sign();
        forge(x, 0, 1, new Terms.Pair(0, 0));
        Due.due("verify", x.verify(), 0);
        x.tell(0, 1);
        Due.due("verify by another first half", x.verify(), 2);
        x.tell(0, 0);
        x.tell(1, 1);
        Due.due("verify by another second half", x.verify(), 2);
        x.tell(1, 0);
        Due.due("verify by 0 and 0", x.verify(), 0);
        x.feed(0);
        Due.due("verify with another message", x.verify(), 2);
    }

    private static void theRootToldStaysWhenBegun() {
        Due.sentence("2: begin has no word on the root told, so it stays 0 and 0");
        LeafSigner x = signed(3, 5);
        forge(x, OPEN, 3, new Terms.Pair(0, 0));
        Due.due("verify", x.verify(), 0);
    }

    private static void rootsAtTheEndsOfLong() {
        Due.sentence("13: Tells the verifier a half of the root (at both ends of long)");
        long[] ends = {Long.MIN_VALUE, -1, 0, Long.MAX_VALUE};
        for (long first : ends) {
            for (long second : ends) {
                LeafSigner x = signed(1, 0);
                Due.due("tell 0 " + first, x.tell(0, first), 1);
                Due.due("tell 1 " + second, x.tell(1, second), 1);
                Due.due("verify before it is forged", x.verify(), 2);
                forge(x, OPEN, 1, new Terms.Pair(first, second));
                Due.due("verify by " + first + " " + second, x.verify(), 0);
            }
        }
    }

    private static void oneHalfIsNotARoot() {
        Due.sentence("14: 2 when it gives another root (in one half only)");
        LeafSigner x = signed(2, 2);
        x.tell(0, 123);
        x.tell(1, -456);
        Terms.Pair own = belowRoot(x, OPEN, 2, new Terms.Pair(123, -456));
        setUppermost(x, OPEN, 2, own, new Terms.Pair(123, -456));
        Due.due("both halves", x.verify(), 0);
        for (int bit : new int[] {0, 31, 32, 63}) {
            setUppermost(x, OPEN, 2, own, new Terms.Pair(123, -456 ^ 1L << bit));
            Due.due("the first half alone", x.verify(), 2);
            setUppermost(x, OPEN, 2, own, new Terms.Pair(123 ^ 1L << bit, -456));
            Due.due("the second half alone", x.verify(), 2);
        }
    }

    private static void eachLeafOfEachHeight() {
        Due.sentence("14: Checks the signature .. by the public, the height, and the root told: 0");
        Terms.Pair told = new Terms.Pair(Long.MIN_VALUE, Long.MAX_VALUE);
        for (int height = 1; height <= 4; height++) {
            for (int leaf = 0; leaf < 1 << height; leaf++) {
                LeafSigner x = signed(height, leaf);
                x.tell(0, told.a());
                x.tell(1, told.b());
                forge(x, OPEN, height, told);
                Due.due("verify, height " + height + " leaf " + leaf, x.verify(), 0);
            }
        }
    }

    /** A signer of the public OPEN that has signed no message with some leaf. */
    private static LeafSigner signed(int height, int leaf) {
        LeafSigner x = new LeafSigner();
        x.begin(7, 8, OPEN, height);
        x.grow(1 << height);
        for (int i = 0; i <= leaf; i++) {
            x.sign();
        }
        return x;
    }

    private static void forge(LeafSigner x, long open, int height, Terms.Pair root) {
        setUppermost(x, open, height, belowRoot(x, open, height, root), root);
    }

    /** Another node beside the uppermost one that the leaf is below: with it they give the root. */
    private static void setUppermost(LeafSigner x, long open, int height, Terms.Pair own, Terms.Pair root) {
        Terms.Pair from = Terms.goOn(Terms.start(NODE_KIND, 7), open, height, 0);
        boolean ownComesFirst = x.leaf() >> (height - 1) == 0;
        long[] beside = ownComesFirst
                ? Terms.leading(Terms.goOn(from, own.a(), own.b()), root)
                : Terms.leading(from, Terms.goBack(root, own.a(), own.b()));
        x.setPart(34 + height, 0, beside[0]);
        x.setPart(34 + height, 1, beside[1]);
    }

    /** The node below the root that the signature gives by a root told. */
    private static Terms.Pair belowRoot(LeafSigner x, long open, int height, Terms.Pair told) {
        Terms.Pair at = leafGiven(x, open, told);
        int i = x.leaf();
        for (int level = 1; level < height; level++) {
            Terms.Pair beside = new Terms.Pair(x.part(34 + level, 0), x.part(34 + level, 1));
            Terms.Pair left = i % 2 == 0 ? at : beside;
            Terms.Pair right = i % 2 == 0 ? beside : at;
            i /= 2;
            at = Terms.hash(NODE_KIND, open, level, i, left.a(), left.b(), right.a(), right.b());
        }
        return at;
    }

    private static Terms.Pair leafGiven(LeafSigner x, long open, Terms.Pair told) {
        int leaf = x.leaf();
        int[] digits = Terms.digits(Terms.hash(5, open, leaf, told.a(), told.b()));
        Terms.Pair state = Terms.goOn(Terms.start(3, 72), open, leaf);
        for (int chain = 0; chain < 35; chain++) {
            Terms.Pair place = new Terms.Pair(x.part(chain, 0), x.part(chain, 1));
            for (int j = digits[chain]; j < 15; j++) {
                place = Terms.hash(2, open, leaf, chain, j, place.a(), place.b());
            }
            state = Terms.goOn(state, place.a(), place.b());
        }
        return state;
    }
}
