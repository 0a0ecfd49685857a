/** For each promise of the document ordinary inputs, the edges that it names, and wrong inputs. */
public final class LeafSignerPromises {
    private static final int[] NOT_A_HALF = {Integer.MIN_VALUE, -1, 2, 3, Integer.MAX_VALUE};

    private static int wrong = 0;

    public static void main(String[] args) {
        promise1ANewObject();
        promise2Begin();
        promise2BeginKeepsMessageAndRootTold();
        promise3Grow();
        promise3GrowMakesCompleteNodes();
        promise4Node();
        promise5Feed();
        promise6Reset();
        promise7Digit();
        promise7DigitsOfTheLack();
        promise8Sign();
        promise9Leaf();
        promise10Part();
        promise11SetLeaf();
        promise12SetPart();
        promise13Tell();
        promise14Verify();
        promise14VerifyEachPartAndLeaf();
        promise14VerifyLooksAtThePresentMessage();
        promise14VerifyHasTheRootAlone();
        promise15Hash();
        promise16Count();
        promise17Check();
        System.out.println(wrong == 0 ? "all promises hold" : wrong + " answers are not as due");
        if (wrong != 0) {
            System.exit(1);
        }
    }

    private static void promise1ANewObject() {
        LeafSigner x = new LeafSigner();
        dueCounts("1", x, 2, 0, 0, 0, 0);
        due("1: leaf", x.leaf(), LeafSigner.NONE);
        due("1: verify", x.verify(), LeafSigner.NONE);
        due("1: reset", x.reset(), 0);
        x.grow(2);
        due("1: root", x.node(1, 0, 0), 6620267035452928864L);
        due("1: root", x.node(1, 0, 1), -1342396483308194175L);

        // A root told of 0 and 0 can't be asked for; telling 0 and 0 must change no answer.
        x.sign();
        due("1: verify by the root told at first", x.verify(), 2);
        x.tell(0, 0);
        x.tell(1, 0);
        due("1: verify by 0 and 0", x.verify(), 2);
        tellRoot(x, 1);
        due("1: verify", x.verify(), 0);

        LeafSigner y = new LeafSigner();
        y.begin(0, 0, 0, 1);
        y.grow(2);
        due("1: as begun with 0", y.node(1, 0, 0), x.node(1, 0, 0));
        due("1: as begun with 0", y.node(1, 0, 1), x.node(1, 0, 1));
    }

    private static void promise2Begin() {
        LeafSigner x = grown(7, 8, 9, 2);
        x.sign();
        long root = x.node(2, 0, 0);
        for (int height : new int[] {0, -1, 5, 6, Integer.MIN_VALUE, Integer.MAX_VALUE}) {
            due("2: begin of height " + height, x.begin(1, 2, 3, height), 0);
        }
        dueCounts("2: nothing done", x, 4, 4, 1, 0, 37);
        due("2: nothing done", x.node(2, 0, 0), root);
        due("2: nothing done", x.leaf(), 0);
        tellRoot(x, 2);
        due("2: nothing done", x.verify(), 0);
        for (int height = 1; height <= 4; height++) {
            due("2: begin", x.begin(7, 8, 9, height), 1);
            dueCounts("2: begin " + height, x, 1 << height, 0, 0, 0, 0);
            due("2: no signature", x.leaf(), LeafSigner.NONE);
            due("2: no signature", x.verify(), LeafSigner.NONE);
            due("2: no signature", x.part(0, 0), 0);
            due("2: no leaf", x.node(0, 0, 0), 0);
            due("2: no root", x.node(height, 0, 0), 0);
            due("2: no root", x.sign(), LeafSigner.NONE);
            x.grow(100);
            due("2: first leaf", x.sign(), 0);
        }
        dueOther("2: first secret", root, grown(6, 8, 9, 2).node(2, 0, 0));
        dueOther("2: second secret", root, grown(7, 7, 9, 2).node(2, 0, 0));
        dueOther("2: public", root, grown(7, 8, 8, 2).node(2, 0, 0));
        due("2: the same again", grown(7, 8, 9, 2).node(2, 0, 0), root);
    }

    private static void promise2BeginKeepsMessageAndRootTold() {
        LeafSigner x = grown(1, 2, 3, 1);
        x.feed(11);
        x.feed(12);
        tellRoot(x, 1);
        x.begin(1, 2, 3, 1);
        due("2: the message stays", x.count(3), 2);
        x.grow(2);
        x.sign();
        due("2: the root told stays", x.verify(), 0);
    }

    private static void promise3Grow() {
        LeafSigner x = new LeafSigner();
        x.begin(1, 2, 3, 4);
        for (int n : new int[] {0, -1, Integer.MIN_VALUE}) {
            due("3: grow " + n, x.grow(n), LeafSigner.NONE);
            due("3: nothing done", x.count(1), 0);
        }
        due("3: grow 1", x.grow(1), 15);
        due("3: grow 4", x.grow(4), 11);
        due("3: made", x.count(1), 5);
        due("3: grow 11", x.grow(11), 0);
        due("3: grow when all are made", x.grow(1), 0);
        due("3: grow 0 when all are made", x.grow(0), LeafSigner.NONE);
        due("3: made", x.count(1), 16);
        x.begin(1, 2, 3, 3);
        x.grow(2);
        due("3: grow of the most", x.grow(Integer.MAX_VALUE), 0);
        due("3: made", x.count(1), 8);
    }

    private static void promise3GrowMakesCompleteNodes() {
        for (int height = 1; height <= 4; height++) {
            LeafSigner whole = grown(5, 6, 7, height);
            LeafSigner x = new LeafSigner();
            x.begin(5, 6, 7, height);
            for (int made = 1; made <= 1 << height; made++) {
                x.grow(1);
                for (int level = 0; level <= height; level++) {
                    int last = (made >> level) - 1;
                    long want = last < 0 ? 0 : whole.node(level, last, 1);
                    due("3: node " + level + " " + last, x.node(level, last, 1), want);
                    due("3: no node " + level + " " + (last + 1), x.node(level, last + 1, 1), 0);
                }
            }
        }
    }

    private static void promise4Node() {
        LeafSigner x = new LeafSigner();
        x.begin(-1, Long.MAX_VALUE, Long.MIN_VALUE, 3);
        x.grow(3);
        due("4: node", x.node(0, 0, 0), 6434731140969975843L);
        due("4: node", x.node(0, 0, 1), 4583576134477782250L);
        due("4: node", x.node(1, 0, 1), -6078643059660451955L);
        due("4: not made", x.node(0, 3, 0), 0);
        due("4: not made", x.node(1, 1, 0), 0);
        due("4: not made", x.node(2, 0, 0), 0);
        x.grow(5);
        due("4: node", x.node(2, 1, 0), -693689778727388883L);
        due("4: root", x.node(3, 0, 0), -2293423203958991142L);
        due("4: root", x.node(3, 0, 1), 2402901484720747024L);
        for (int half : NOT_A_HALF) {
            due("4: half " + half, x.node(0, 0, half), 0);
        }
        for (int i : new int[] {-1, 8, 16, Integer.MIN_VALUE, Integer.MAX_VALUE}) {
            due("4: leaf " + i, x.node(0, i, 0), 0);
            due("4: root " + i, x.node(3, i, 0), 0);
        }
        due("4: beside the root", x.node(3, 1, 0), 0);
        due("4: past level 1", x.node(1, 4, 0), 0);
        for (int level : new int[] {-1, 4, 5, 31, 32, 33, 64, Integer.MIN_VALUE, Integer.MAX_VALUE}) {
            due("4: level " + level, x.node(level, 0, 0), 0);
        }
    }

    private static void promise5Feed() {
        LeafSigner x = new LeafSigner();
        for (int n = 1; n <= 20; n++) {
            due("5: feed", x.feed(n), n);
        }
        long full = x.hash(9, 0);
        due("5: feed the 21st", x.feed(21), LeafSigner.NONE);
        due("5: feed the 22nd", x.feed(22), LeafSigner.NONE);
        due("5: longs", x.count(3), 20);
        due("5: the message stays", x.hash(9, 0), full);
    }

    private static void promise6Reset() {
        LeafSigner x = new LeafSigner();
        due("6: reset of none", x.reset(), 0);
        x.feed(1);
        x.feed(2);
        due("6: reset", x.reset(), 2);
        due("6: longs", x.count(3), 0);
        due("6: reset again", x.reset(), 0);
        due("6: the hash of none", x.hash(77, 0), 77);
        for (int n = 0; n < 25; n++) {
            x.feed(n);
        }
        due("6: reset of a full one", x.reset(), 20);
        due("6: feed after it", x.feed(5), 1);
    }

    private static void promise7Digit() {
        LeafSigner x = new LeafSigner();
        due("7: no root", x.digit(0, 0), LeafSigner.NONE);
        x.grow(1);
        due("7: no root", x.digit(0, 0), LeafSigner.NONE);
        x.grow(1);
        int[] want = {0, 14, 5, 12, 12, 9, 15, 0, 1, 14, 12, 12, 3, 3, 11, 15, 0, 15, 15, 6, 14, 9, 8,
            5, 15, 4, 2, 14, 15, 12, 11, 9, 0, 11, 12};
        for (int k = 0; k < 35; k++) {
            due("7: digit " + k, x.digit(1, k), want[k]);
        }
        for (int leaf : new int[] {-1, 2, 3, Integer.MIN_VALUE, Integer.MAX_VALUE}) {
            due("7: leaf " + leaf, x.digit(leaf, 0), LeafSigner.NONE);
        }
        for (int k : new int[] {-1, 35, 36, Integer.MIN_VALUE, Integer.MAX_VALUE}) {
            due("7: digit " + k, x.digit(0, k), LeafSigner.NONE);
        }
        String before = digits(x, 0);
        dueOther("7: another leaf", before.hashCode(), digits(x, 1).hashCode());
        x.tell(0, 99);
        x.tell(1, 99);
        due("7: not by the root told", digits(x, 0).equals(before) ? 1 : 0, 1);
        x.sign();
        due("7: the same when signed", digits(x, 0).equals(before) ? 1 : 0, 1);
        x.feed(0);
        dueOther("7: another message", before.hashCode(), digits(x, 0).hashCode());
        x.begin(0, 0, 0, 1);
        due("7: begun anew", x.digit(0, 0), LeafSigner.NONE);
    }

    private static void promise7DigitsOfTheLack() {
        LeafSigner x = grown(3, 1, 4, 2);
        for (int round = 0; round < 10; round++) {
            int lack = 0;
            for (int k = 0; k < 32; k++) {
                lack += 15 - x.digit(round % 4, k);
            }
            int last = 256 * x.digit(round % 4, 32) + 16 * x.digit(round % 4, 33) + x.digit(round % 4, 34);
            due("7: lack", last, lack);
            x.feed(round);
        }
    }

    private static void promise8Sign() {
        LeafSigner x = new LeafSigner();
        x.begin(1, 2, 3, 2);
        due("8: no leaf made", x.sign(), LeafSigner.NONE);
        x.grow(3);
        due("8: no root", x.sign(), LeafSigner.NONE);
        dueCounts("8: nothing done", x, 4, 3, 0, 0, 0);
        x.grow(1);
        for (int leaf = 0; leaf < 4; leaf++) {
            due("8: sign", x.sign(), leaf);
            due("8: used", x.count(2), leaf + 1);
        }
        long part = x.part(34, 1);
        x.feed(5);
        due("8: all used", x.sign(), LeafSigner.USED);
        due("8: all used", x.sign(), LeafSigner.USED);
        due("8: used", x.count(2), 4);
        due("8: the signature stays", x.leaf(), 3);
        due("8: the signature stays", x.part(34, 1), part);
        due("8: grow gives none back", x.grow(1), 0);
        due("8: all used", x.sign(), LeafSigner.USED);
        x.begin(1, 2, 3, 2);
        due("8: no root when begun anew", x.sign(), LeafSigner.NONE);
    }

    private static void promise9Leaf() {
        LeafSigner x = new LeafSigner();
        due("9: none", x.leaf(), LeafSigner.NONE);
        x.sign();
        due("9: none", x.leaf(), LeafSigner.NONE);
        x.grow(2);
        due("9: none", x.leaf(), LeafSigner.NONE);
        x.sign();
        due("9: leaf", x.leaf(), 0);
        x.sign();
        due("9: leaf", x.leaf(), 1);
        x.setLeaf(700);
        due("9: leaf set", x.leaf(), 700);
        x.begin(0, 0, 0, 1);
        due("9: none", x.leaf(), LeafSigner.NONE);
    }

    private static void promise10Part() {
        LeafSigner x = new LeafSigner();
        due("10: none", x.part(0, 0), 0);
        x.grow(2);
        due("10: none", x.part(0, 0), 0);
        x.sign();
        due("10: place", x.part(0, 0), -488695862297163982L);
        due("10: place", x.part(0, 1), -4325077986201097846L);
        due("10: place", x.part(34, 0), -8247684255281568081L);
        due("10: node", x.part(35, 0), x.node(0, 1, 0));
        due("10: node", x.part(35, 1), x.node(0, 1, 1));
        for (int k : new int[] {-1, 36, 37, 39, Integer.MIN_VALUE, Integer.MAX_VALUE}) {
            due("10: part " + k, x.part(k, 0), 0);
        }
        for (int half : NOT_A_HALF) {
            due("10: half " + half, x.part(0, half), 0);
            due("10: half " + half, x.part(35, half), 0);
        }
        LeafSigner y = grown(1, 2, 3, 4);
        for (int leaf = 0; leaf < 16; leaf++) {
            y.sign();
            for (int level = 0; level < 4; level++) {
                long want = y.node(level, (leaf >> level) ^ 1, 0);
                due("10: beside leaf " + leaf + " at " + level, y.part(35 + level, 0), want);
            }
            due("10: past the nodes", y.part(39, 0), 0);
        }
        long before = y.part(3, 0);
        y.feed(8);
        due("10: as it was signed", y.part(3, 0), before);
    }

    private static void promise11SetLeaf() {
        LeafSigner x = new LeafSigner();
        due("11: none", x.setLeaf(0), 0);
        due("11: none", x.leaf(), LeafSigner.NONE);
        x.grow(2);
        x.sign();
        for (int leaf : new int[] {-1, -2, Integer.MIN_VALUE}) {
            due("11: leaf " + leaf, x.setLeaf(leaf), 0);
            due("11: nothing done", x.leaf(), 0);
        }
        for (int leaf : new int[] {1, 2, 16, Integer.MAX_VALUE, 0}) {
            due("11: leaf " + leaf, x.setLeaf(leaf), 1);
            due("11: leaf " + leaf, x.leaf(), leaf);
        }
        x.setLeaf(1);
        due("11: no leaf is used by it", x.count(2), 1);
        due("11: the next leaf", x.sign(), 1);
    }

    private static void promise12SetPart() {
        LeafSigner x = new LeafSigner();
        due("12: none", x.setPart(0, 0, 5), 0);
        x.begin(1, 2, 3, 2);
        x.grow(4);
        due("12: none", x.setPart(0, 0, 5), 0);
        x.sign();
        for (int k = 0; k < 37; k++) {
            long other = x.part(k, 1);
            due("12: set", x.setPart(k, 0, 100 + k), 1);
            due("12: the other half stays", x.part(k, 1), other);
            due("12: set", x.setPart(k, 1, -k), 1);
        }
        for (int k = 0; k < 37; k++) {
            due("12: first half", x.part(k, 0), 100 + k);
            due("12: second half", x.part(k, 1), -k);
        }
        for (int k : new int[] {-1, 37, 38, 39, Integer.MIN_VALUE, Integer.MAX_VALUE}) {
            due("12: part " + k, x.setPart(k, 0, 5), 0);
        }
        for (int half : NOT_A_HALF) {
            due("12: half " + half, x.setPart(5, half, 5), 0);
        }
        due("12: nothing done", x.part(5, 0), 105);
        due("12: nothing done", x.part(6, 0), 106);
        due("12: the tree stays", x.check(), 1);
        due("12: the tree stays", x.node(0, 1, 0), grown(1, 2, 3, 2).node(0, 1, 0));
    }

    private static void promise13Tell() {
        LeafSigner x = grown(1, 2, 3, 1);
        x.sign();
        due("13: tell", x.tell(0, x.node(1, 0, 0)), 1);
        due("13: half told", x.verify(), 2);
        due("13: tell", x.tell(1, x.node(1, 0, 1)), 1);
        due("13: both told", x.verify(), 0);
        for (int half : NOT_A_HALF) {
            due("13: half " + half, x.tell(half, 5), 0);
        }
        due("13: nothing done", x.verify(), 0);
        x.tell(0, x.node(1, 0, 0) ^ 1);
        due("13: another first half", x.verify(), 2);
        x.tell(0, x.node(1, 0, 0));
        x.tell(1, x.node(1, 0, 1) ^ Long.MIN_VALUE);
        due("13: another second half", x.verify(), 2);
        due("13: the tree stays", x.check(), 1);
    }

    private static void promise14Verify() {
        for (int height = 1; height <= 4; height++) {
            LeafSigner x = grown(-5, 6, Long.MAX_VALUE, height);
            due("14: none", x.verify(), LeafSigner.NONE);
            tellRoot(x, height);
            due("14: none", x.verify(), LeafSigner.NONE);
            for (int leaf = 0; leaf < 1 << height; leaf++) {
                x.feed(leaf);
                x.sign();
                due("14: leaf " + leaf, x.verify(), 0);
                due("14: leaf " + leaf + " again", x.verify(), 0);
            }
            for (int none : new int[] {1 << height, (1 << height) + 1, 32, Integer.MAX_VALUE}) {
                x.setLeaf(none);
                due("14: leaf " + none, x.verify(), 1);
            }
            x.tell(0, 0);
            due("14: no such leaf comes first", x.verify(), 1);
        }
    }

    private static void promise14VerifyEachPartAndLeaf() {
        LeafSigner x = grown(1, 2, 3, 3);
        tellRoot(x, 3);
        x.sign();
        x.sign();
        x.sign();
        for (int k = 0; k < 38; k++) {
            int half = k % 2;
            long v = x.part(k, half);
            x.setPart(k, half, v ^ (1L << k));
            due("14: part " + k, x.verify(), 2);
            due("14: it is kept", x.part(k, half), v ^ (1L << k));
            x.setPart(k, half, v);
            due("14: part " + k + " as it was", x.verify(), 0);
        }
        for (int leaf = 0; leaf < 8; leaf++) {
            x.setLeaf(leaf);
            due("14: leaf " + leaf, x.verify(), leaf == 2 ? 0 : 2);
        }
    }

    private static void promise14VerifyLooksAtThePresentMessage() {
        LeafSigner x = grown(1, 2, 3, 2);
        tellRoot(x, 2);
        x.feed(5);
        x.sign();
        x.feed(6);
        due("14: a longer message", x.verify(), 2);
        x.reset();
        due("14: no message", x.verify(), 2);
        x.feed(6);
        due("14: another message", x.verify(), 2);
        x.reset();
        x.feed(5);
        due("14: the message again", x.verify(), 0);
        for (int n = 0; n < 19; n++) {
            x.feed(n);
        }
        x.sign();
        due("14: the longest message", x.verify(), 0);
        x.digit(0, 0);
        x.check();
        x.hash(1, 1);
        due("14: looking changes nothing", x.verify(), 0);
    }

    /** Another's signature: the verifier's own secrets and its own root must not come into it. */
    private static void promise14VerifyHasTheRootAlone() {
        LeafSigner signer = grown(1, 2, 3, 3);
        LeafSigner verifier = grown(-7, 99, 3, 3);
        signer.feed(5);
        verifier.feed(5);
        verifier.sign();
        for (int leaf = 0; leaf < 4; leaf++) {
            signer.sign();
        }
        verifier.setLeaf(signer.leaf());
        for (int k = 0; k < 38; k++) {
            verifier.setPart(k, 0, signer.part(k, 0));
            verifier.setPart(k, 1, signer.part(k, 1));
        }
        tellRoot(verifier, 3);
        due("14: another's signature by the own root", verifier.verify(), 2);
        verifier.tell(0, signer.node(3, 0, 0));
        verifier.tell(1, signer.node(3, 0, 1));
        due("14: another's signature by the root told", verifier.verify(), 0);
        verifier.setLeaf(2);
        due("14: another's signature with another leaf", verifier.verify(), 2);
    }

    private static void promise15Hash() {
        LeafSigner x = new LeafSigner();
        for (int kind : new int[] {0, 5, -1, Integer.MIN_VALUE, Integer.MAX_VALUE}) {
            due("15: of none", x.hash(kind, 0), kind);
            due("15: of none", x.hash(kind, 1), 0);
        }
        for (int n = 0; n < 20; n++) {
            x.feed(n % 3 == 0 ? -1 : n);
        }
        due("15: hash", x.hash(Integer.MIN_VALUE, 0), -7072485679635251129L);
        due("15: hash", x.hash(Integer.MAX_VALUE, 1), 2122572641639639868L);
        for (int half : NOT_A_HALF) {
            due("15: half " + half, x.hash(1, half), 0);
        }
        // Of the one long 1: a is 1 mixed when the kind is 0, and b is what 1 + a is, mixed.
        x.reset();
        x.feed(1);
        due("15: of one long", x.hash(0, 0), 0x5692161D100B05E5L);
        due("15: of one long", x.hash(0, 1), 0xD9BF17D113F38956L);
        x.begin(1, 2, 3, 4);
        due("15: not by the public", x.hash(0, 0), 0x5692161D100B05E5L);
    }

    private static void promise16Count() {
        LeafSigner x = new LeafSigner();
        x.begin(1, 2, 3, 4);
        dueCounts("16", x, 16, 0, 0, 0, 0);
        x.grow(7);
        x.feed(1);
        dueCounts("16", x, 16, 7, 0, 1, 0);
        x.grow(9);
        x.sign();
        x.sign();
        x.sign();
        dueCounts("16", x, 16, 16, 3, 1, 39);
        for (int height = 1; height <= 3; height++) {
            LeafSigner y = grown(1, 2, 3, height);
            y.sign();
            dueCounts("16", y, 1 << height, 1 << height, 1, 0, 35 + height);
        }
        for (int what : new int[] {-1, 5, 6, Integer.MIN_VALUE, Integer.MAX_VALUE}) {
            due("16: count " + what, x.count(what), LeafSigner.NONE);
        }
    }

    private static void promise17Check() {
        for (int height = 1; height <= 4; height++) {
            LeafSigner x = grown(9, 9, 9, 4);
            // Begun anew, the nodes of the larger tree must not be taken for nodes of this one.
            x.begin(1, 2, 3, height);
            due("17: none made", x.check(), 1);
            for (int made = 1; made <= 1 << height; made++) {
                x.grow(1);
                due("17: made " + made, x.check(), 1);
            }
            x.sign();
            x.setPart(35, 0, 5);
            x.setLeaf(9);
            x.tell(0, 5);
            due("17: whatever is set", x.check(), 1);
        }
    }

    private static LeafSigner grown(long one, long two, long open, int height) {
        LeafSigner x = new LeafSigner();
        x.begin(one, two, open, height);
        x.grow(1 << height);
        return x;
    }

    private static void tellRoot(LeafSigner x, int height) {
        x.tell(0, x.node(height, 0, 0));
        x.tell(1, x.node(height, 0, 1));
    }

    private static String digits(LeafSigner x, int leaf) {
        StringBuilder all = new StringBuilder();
        for (int k = 0; k < 35; k++) {
            all.append(Integer.toHexString(x.digit(leaf, k)));
        }
        return all.toString();
    }

    private static void dueCounts(String call, LeafSigner x, int... wants) {
        for (int what = 0; what < wants.length; what++) {
            due(call + ": count " + what, x.count(what), wants[what]);
        }
    }

    private static void due(String call, long got, long want) {
        if (got != want) {
            wrong++;
            System.out.println("promise " + call + " answered " + got + ", due is " + want);
        }
    }

    private static void dueOther(String call, long got, long not) {
        if (got == not) {
            wrong++;
            System.out.println("promise " + call + " answered " + got + ", due is another");
        }
    }
}
