import java.lang.reflect.Array;
import java.lang.reflect.Field;
import java.lang.reflect.Modifier;
import java.util.ArrayList;
import java.util.List;
import java.util.function.ToIntFunction;

/**
 * The boundary cases of the document's promises, one test for each sentence that names one, in the
 * document's order: the last value that is allowed and the first that is not, the empty and the full,
 * refused calls and that nothing is done by them, arguments at both ends of int and of long.
 */
public final class LeafSignerEdges {
    private static final int NONE = LeafSigner.NONE;
    private static final int USED = LeafSigner.USED;
    private static final int LEAST = Integer.MIN_VALUE;
    private static final int MOST = Integer.MAX_VALUE;
    private static final int[] NO_HALF = {LEAST, -2, -1, 2, 3, 32, MOST};
    private static final int[] BELOW_ZERO = {-1, -2, LEAST + 1, LEAST};
    private static final long[] LONGS = {Long.MIN_VALUE, -1, 0, 1, Long.MAX_VALUE};

    public static void main(String[] args) throws IllegalAccessException {
        newSecretsAndPublicAndHeight();
        newNoLeafMade();
        newNoMessage();
        newNoSignature();
        newOneLeavesTheOthers();
        beginAsIfNew();
        beginHeightAllowed();
        beginHeightRefused();
        beginNoneMade();
        beginNoneUsed();
        beginNoSignature();
        growNext();
        growAllThatAreLeft();
        growWhenAllAreMade();
        growCompleteNodes();
        growRefused();
        nodeHalves();
        nodeNoneSuchByLevel();
        nodeNoneSuchByNumber();
        nodeNoneSuchByAll();
        nodeNotMade();
        feedHowMany();
        feedRefused();
        feedAnyLong();
        resetEmptyAndFull();
        resetIsEmpty();
        digitNoneSuchByLeaf();
        digitNoneSuchByNumber();
        digitNoRootMade();
        signEachLeaf();
        signNoRootMade();
        signAllUsed();
        signEmptyAndFullMessage();
        leafOfTheSignature();
        leafNone();
        partHalves();
        partNoneSuchByNumber();
        partNoSignature();
        setLeafAnyNumber();
        setLeafBelowZero();
        setLeafNoSignature();
        setPartEach();
        setPartAnyLong();
        setPartNoneSuch();
        setPartNoSignature();
        tellEachHalf();
        tellNoSuchHalf();
        verifyGenuine();
        verifyLeafIsNone();
        verifyAnotherRootByPart();
        verifyAnotherRootByRootTold();
        verifyAnotherRootByMessage();
        verifyNoSignature();
        hashAnyKind();
        hashNoSuchHalf();
        countLeavesInAll();
        countMade();
        countUsed();
        countLongs();
        countParts();
        countOthers();
        checkEmptyToFull();
        checkWouldTellZero();
        lookingDoesNothing();
        Due.end();
    }

    // Promise 1: A new object

    private static void newSecretsAndPublicAndHeight() {
        Due.sentence("1: Secrets and public 0, height 1");
        LeafSigner begun = new LeafSigner();
        begun.begin(0, 0, 0, 1);
        dueSame("new", new LeafSigner(), begun);
    }

    private static void newNoLeafMade() {
        Due.sentence("1: no leaf made");
        LeafSigner x = new LeafSigner();
        Due.due("count(1)", x.count(1), 0);
        Due.due("count(2)", x.count(2), 0);
        Due.due("node of leaf 0", x.node(0, 0, 0), 0);
        Due.due("node of leaf 1", x.node(0, 1, 0), 0);
        Due.due("node of the root", x.node(1, 0, 0), 0);
        Due.due("sign()", x.sign(), NONE);
        Due.due("digit(0, 0)", x.digit(0, 0), NONE);
        Due.due("grow(1)", x.grow(1), 1);
    }

    private static void newNoMessage() {
        Due.sentence("1: no message");
        LeafSigner x = new LeafSigner();
        Due.due("count(3)", x.count(3), 0);
        Due.due("hash(6, 0)", x.hash(6, 0), 6);
        Due.due("hash(6, 1)", x.hash(6, 1), 0);
        Due.due("reset()", x.reset(), 0);
        Due.due("feed(0)", x.feed(0), 1);
    }

    private static void newNoSignature() {
        Due.sentence("1: no signature");
        dueNoSignature("new", new LeafSigner());
    }

    private static void newOneLeavesTheOthers() {
        Due.sentence("1: A new object (it changes none that was there before)");
        for (Stage stage : Stage.values()) {
            List<String> want = all(stage.make());
            for (Stage other : Stage.values()) {
                LeafSigner x = stage.make();
                all(other.make());
                dueSame(stage + " before " + other, all(x), want);
            }
        }
    }

    // Promise 2: begin

    private static void beginAsIfNew() {
        Due.sentence("2: New secrets and a new public");
        for (Stage stage : Stage.values()) {
            for (long v : LONGS) {
                dueBegunAsNew(stage, v, 2, 3);
                dueBegunAsNew(stage, 1, v, 3);
                dueBegunAsNew(stage, 1, 2, v);
            }
        }
    }

    /** The message and the root told are not begin's: both objects get the same ones. */
    private static void dueBegunAsNew(Stage stage, long one, long two, long open) {
        for (int height = 1; height <= 4; height++) {
            LeafSigner x = stage.make();
            LeafSigner fresh = new LeafSigner();
            for (LeafSigner each : new LeafSigner[] {x, fresh}) {
                each.reset();
                each.begin(one, two, open, height);
                each.grow(1 << height);
                tellRoot(each, height);
            }
            dueSame(stage + ", begin " + one + " " + two + " " + open + " " + height, x, fresh);
        }
    }

    private static void beginHeightAllowed() {
        Due.sentence("2: as many leaves as the height tells .. 1");
        for (Stage stage : Stage.values()) {
            for (int height = 1; height <= 4; height++) {
                LeafSigner x = stage.make();
                Due.due(stage + ", begin " + height, x.begin(1, 2, 3, height), 1);
                Due.due(stage + ", leaves", x.count(0), new int[] {0, 2, 4, 8, 16}[height]);
                Due.due(stage + ", grow", x.grow(1), (1 << height) - 1);
                Due.due(stage + ", last leaf", x.node(0, (1 << height) - 1, 0), 0);
                Due.due(stage + ", grow", x.grow(MOST), 0);
                Due.dueOther(stage + ", root", x.node(height, 0, 0), 0);
            }
        }
    }

    private static void beginHeightRefused() {
        Due.sentence("2: 0, and nothing is done, when the height is not 1 .. 4");
        for (int height : new int[] {0, -1, LEAST, 5, 6, 31, 32, 33, 36, MOST}) {
            dueNothingDone("begin " + height, 0, x -> x.begin(91, 92, 93, height), Stage.values());
        }
    }

    private static void beginNoneMade() {
        Due.sentence("2: none of these is made");
        for (int height = 1; height <= 4; height++) {
            LeafSigner x = grown(4);
            x.begin(1, 2, 3, height);
            Due.due("count(1)", x.count(1), 0);
            for (int level = 0; level <= 4; level++) {
                for (int i = 0; i < 16 >> level; i++) {
                    Due.due("node " + level + " " + i, x.node(level, i, 0), 0);
                }
            }
            Due.due("sign()", x.sign(), NONE);
            Due.due("digit(0, 0)", x.digit(0, 0), NONE);
        }
    }

    private static void beginNoneUsed() {
        Due.sentence("2: none of these is .. used");
        for (int height = 1; height <= 4; height++) {
            LeafSigner x = signed(height, (1 << height) - 1);
            Due.due("sign()", x.sign(), USED);
            x.begin(1, 2, 3, height);
            Due.due("count(2)", x.count(2), 0);
            Due.due("sign()", x.sign(), NONE);
            x.grow(16);
            Due.due("sign()", x.sign(), 0);
            Due.due("count(2)", x.count(2), 1);
        }
    }

    private static void beginNoSignature() {
        Due.sentence("2: and there is no signature");
        for (int height = 1; height <= 4; height++) {
            LeafSigner x = signed(4, 15);
            x.begin(1, 2, 3, height);
            dueNoSignature("begun", x);
            x.grow(16);
            dueNoSignature("grown", x);
        }
    }

    // Promise 3: grow

    private static void growNext() {
        Due.sentence("3: Makes the next n leaves .. how many are left");
        for (int height = 1; height <= 4; height++) {
            int all = 1 << height;
            LeafSigner x = begun(height);
            for (int made = 1; made <= all; made++) {
                Due.due("grow(1)", x.grow(1), all - made);
                Due.due("made", x.count(1), made);
            }
        }
    }

    private static void growAllThatAreLeft() {
        Due.sentence("3: (all that are left, if these are less)");
        for (int height = 1; height <= 4; height++) {
            int all = 1 << height;
            for (int made = 0; made < all; made++) {
                int left = all - made;
                dueGrown(height, made, left, 0);
                dueGrown(height, made, left + 1, 0);
                dueGrown(height, made, MOST - made, 0);
                dueGrown(height, made, MOST, 0);
                if (left > 1) {
                    dueGrown(height, made, left - 1, 1);
                }
            }
        }
    }

    private static void growWhenAllAreMade() {
        Due.sentence("3: (all that are left, if these are less): none are left");
        for (int n : new int[] {1, 2, 16, MOST}) {
            dueNothingDone("grow " + n, 0, x -> x.grow(n), Stage.GROWN, Stage.SIGNED, Stage.FORGED, Stage.USED_UP);
        }
    }

    private static void growCompleteNodes() {
        Due.sentence("3: and all nodes that are complete then");
        for (int height = 1; height <= 4; height++) {
            LeafSigner whole = grown(height);
            for (int n = 1; n <= 1 << height; n++) {
                LeafSigner x = begun(height);
                x.grow(n);
                for (int level = 0; level <= height; level++) {
                    int complete = n >> level;
                    String call = "node of level " + level + " when made are " + n;
                    if (complete > 0) {
                        Due.due(call, x.node(level, complete - 1, 0), whole.node(level, complete - 1, 0));
                        Due.dueOther(call, x.node(level, complete - 1, 1), 0);
                    }
                    Due.due(call, x.node(level, complete, 0), 0);
                    Due.due(call, x.node(level, complete, 1), 0);
                }
            }
        }
    }

    private static void growRefused() {
        Due.sentence("3: NONE, and nothing is done, when n is less than 1");
        for (int n : new int[] {0, -1, LEAST + 1, LEAST}) {
            dueNothingDone("grow " + n, NONE, x -> x.grow(n), Stage.values());
        }
    }

    // Promise 4: node

    private static void nodeHalves() {
        Due.sentence("4: A half (0, 1) of a node; 0 when there is none such");
        LeafSigner x = grown(2);
        for (int level = 0; level <= 2; level++) {
            for (int i = 0; i < 4 >> level; i++) {
                Due.dueOther("half 0", x.node(level, i, 0), 0);
                Due.dueOther("half 1", x.node(level, i, 1), 0);
                Due.dueOther("half 1", x.node(level, i, 1), x.node(level, i, 0));
                for (int half : NO_HALF) {
                    Due.due("node " + level + " " + i + " " + half, x.node(level, i, half), 0);
                }
            }
        }
    }

    private static void nodeNoneSuchByLevel() {
        Due.sentence("4: 0 when there is none such: no such level");
        for (int height = 1; height <= 4; height++) {
            LeafSigner x = grown(height);
            Due.dueOther("the lowest level", x.node(0, 0, 0), 0);
            Due.dueOther("the highest level", x.node(height, 0, 0), 0);
            for (int level : new int[] {-1, LEAST, height + 1, 5, 31, 32, 32 + height, 64, MOST}) {
                Due.due("level " + level + " of " + height, x.node(level, 0, 0), 0);
                Due.due("level " + level + " of " + height, x.node(level, 1, 1), 0);
            }
        }
    }

    private static void nodeNoneSuchByNumber() {
        Due.sentence("4: 0 when there is none such: no such number");
        for (int height = 1; height <= 4; height++) {
            LeafSigner x = grown(height);
            for (int level = 0; level <= height; level++) {
                int all = 1 << (height - level);
                Due.dueOther("the first of level " + level, x.node(level, 0, 0), 0);
                Due.dueOther("the last of level " + level, x.node(level, all - 1, 0), 0);
                for (int i : new int[] {-1, -all, LEAST, all, all + 1, 2 * all, 31, 32, MOST}) {
                    Due.due("node " + level + " " + i + " of " + height, x.node(level, i, 0), 0);
                }
            }
        }
    }

    private static void nodeNoneSuchByAll() {
        Due.sentence("4: 0 when there is none such: at both ends of int");
        LeafSigner x = grown(4);
        int[] ends = {LEAST, -1, 0, MOST};
        for (int level : ends) {
            for (int i : ends) {
                for (int half : ends) {
                    boolean there = level == 0 && i == 0 && half == 0;
                    long got = x.node(level, i, half);
                    Due.due("node " + level + " " + i + " " + half + " is 0", got == 0 ? 1 : 0, there ? 0 : 1);
                }
            }
        }
    }

    private static void nodeNotMade() {
        Due.sentence("4: or it is not made");
        for (int height = 1; height <= 4; height++) {
            int all = 1 << height;
            LeafSigner x = begun(height);
            Due.due("leaf 0", x.node(0, 0, 0), 0);
            Due.due("root", x.node(height, 0, 0), 0);
            x.grow(all - 1);
            Due.dueOther("the last leaf made", x.node(0, all - 2, 0), 0);
            Due.due("the last leaf", x.node(0, all - 1, 0), 0);
            Due.due("the last leaf", x.node(0, all - 1, 1), 0);
            for (int level = 1; level <= height; level++) {
                int last = (all >> level) - 1;
                Due.due("the last of level " + level, x.node(level, last, 0), 0);
                Due.due("the last of level " + level, x.node(level, last, 1), 0);
            }
            x.grow(1);
            Due.dueOther("the last leaf", x.node(0, all - 1, 0), 0);
            Due.dueOther("root", x.node(height, 0, 0), 0);
        }
    }

    // Promise 5: feed

    private static void feedHowMany() {
        Due.sentence("5: The message gets one long more: how many it has");
        LeafSigner x = new LeafSigner();
        for (int n = 1; n <= 20; n++) {
            long before = x.hash(0, 0);
            Due.due("feed", x.feed(n), n);
            Due.due("longs", x.count(3), n);
            Due.dueOther("hash after feed " + n, x.hash(0, 0), before);
        }
    }

    private static void feedRefused() {
        Due.sentence("5: NONE when it has 20");
        for (long v : LONGS) {
            dueNothingDone("feed " + v, NONE, x -> x.feed(v), Stage.GROWN);
        }
        LeafSigner x = new LeafSigner();
        feed(x, 20);
        Due.due("the 21st", x.feed(0), NONE);
        Due.due("the 22nd", x.feed(0), NONE);
        Due.due("reset()", x.reset(), 20);
        Due.due("the first again", x.feed(0), 1);
    }

    private static void feedAnyLong() {
        Due.sentence("5: The message gets one long more: of any value");
        for (long v : LONGS) {
            LeafSigner x = new LeafSigner();
            Due.due("feed " + v, x.feed(v), 1);
            for (long other : LONGS) {
                LeafSigner y = new LeafSigner();
                y.feed(other);
                Due.due("hash of " + v + " and of " + other + " are the same",
                        x.hash(0, 0) == y.hash(0, 0) ? 1 : 0, v == other ? 1 : 0);
            }
        }
    }

    // Promise 6: reset

    private static void resetEmptyAndFull() {
        Due.sentence("6: how many it had");
        for (int n = 0; n <= 20; n++) {
            LeafSigner x = new LeafSigner();
            feed(x, n);
            Due.due("reset of " + n, x.reset(), n);
            Due.due("reset again", x.reset(), 0);
        }
        LeafSigner x = new LeafSigner();
        feed(x, 21);
        Due.due("reset when a long was refused", x.reset(), 20);
    }

    private static void resetIsEmpty() {
        Due.sentence("6: The message is empty");
        LeafSigner x = grown(1);
        LeafSigner fresh = grown(1);
        feed(x, 20);
        x.reset();
        dueSame("reset", x, fresh);
        LeafSigner y = grown(1);
        LeafSigner other = grown(1);
        feed(y, 20);
        y.reset();
        y.feed(-1);
        other.feed(-1);
        dueSame("reset and feed", y, other);
    }

    // Promise 7: digit

    private static void digitNoneSuchByLeaf() {
        Due.sentence("7: NONE when there is none such: no such leaf");
        for (int height = 1; height <= 4; height++) {
            int all = 1 << height;
            LeafSigner x = grown(height);
            for (int k : new int[] {0, 31, 32, 34}) {
                dueDigit("leaf 0", x.digit(0, k));
                dueDigit("leaf " + (all - 1), x.digit(all - 1, k));
                for (int leaf : new int[] {-1, -all, LEAST, all, all + 1, 16, 32, MOST}) {
                    Due.due("leaf " + leaf + " of " + all, x.digit(leaf, k), NONE);
                }
            }
        }
    }

    private static void digitNoneSuchByNumber() {
        Due.sentence("7: NONE when there is none such: no such digit");
        LeafSigner x = grown(4);
        for (int leaf : new int[] {0, 15}) {
            for (int k = 0; k < 35; k++) {
                dueDigit("digit " + k, x.digit(leaf, k));
            }
            for (int k : new int[] {-1, -35, LEAST, 35, 36, 39, 64, MOST}) {
                Due.due("digit " + k, x.digit(leaf, k), NONE);
            }
        }
        Due.due("both at the lower end", x.digit(LEAST, LEAST), NONE);
        Due.due("both at the upper end", x.digit(MOST, MOST), NONE);
    }

    private static void digitNoRootMade() {
        Due.sentence("7: or no root is made");
        for (int height = 1; height <= 4; height++) {
            int all = 1 << height;
            LeafSigner x = begun(height);
            for (int made = 0; made < all; made++) {
                Due.due("digit(0, 0), made " + made, x.digit(0, 0), NONE);
                Due.due("digit of the last, made " + made, x.digit(all - 1, 34), NONE);
                x.grow(1);
            }
            dueDigit("digit(0, 0), all made", x.digit(0, 0));
            dueDigit("digit of the last, all made", x.digit(all - 1, 34));
        }
    }

    // Promise 8: sign

    private static void signEachLeaf() {
        Due.sentence("8: Signs the message with the next leaf: its number");
        for (int height = 1; height <= 4; height++) {
            LeafSigner x = grown(height);
            for (int leaf = 0; leaf < 1 << height; leaf++) {
                Due.due("sign()", x.sign(), leaf);
                Due.due("leaf()", x.leaf(), leaf);
                Due.due("used", x.count(2), leaf + 1);
            }
        }
    }

    private static void signNoRootMade() {
        Due.sentence("8: NONE, and nothing is done, when no root is made");
        dueNothingDone("sign", NONE, LeafSigner::sign, Stage.NEW, Stage.BEGUN, Stage.HALF_GROWN);
        for (int height = 1; height <= 4; height++) {
            LeafSigner x = begun(height);
            for (int made = 0; made < 1 << height; made++) {
                Due.due("sign(), made " + made, x.sign(), NONE);
                Due.due("used", x.count(2), 0);
                dueNoSignature("made " + made, x);
                x.grow(1);
            }
            Due.due("sign(), all made", x.sign(), 0);
        }
    }

    private static void signAllUsed() {
        Due.sentence("8: USED when all are used");
        dueNothingDone("sign", USED, LeafSigner::sign, Stage.USED_UP);
        for (int height = 1; height <= 4; height++) {
            int all = 1 << height;
            LeafSigner x = signed(height, all - 2);
            Due.due("sign() of the last", x.sign(), all - 1);
            Due.due("sign() after it", x.sign(), USED);
            Due.due("sign() again", x.sign(), USED);
            x.grow(MOST);
            Due.due("sign() when grown", x.sign(), USED);
            x.reset();
            x.feed(77);
            Due.due("sign() with another message", x.sign(), USED);
            x.setLeaf(0);
            Due.due("sign() with another leaf set", x.sign(), USED);
            Due.due("leaf()", x.leaf(), 0);
            Due.due("used", x.count(2), all);
        }
    }

    private static void signEmptyAndFullMessage() {
        Due.sentence("8: Signs the message: of no long, and of 20");
        for (int n : new int[] {0, 1, 19, 20, 21}) {
            LeafSigner x = grown(2);
            tellRoot(x, 2);
            feed(x, n);
            Due.due("sign() of " + n, x.sign(), 0);
            Due.due("verify() of " + n, x.verify(), 0);
        }
    }

    // Promise 9: leaf

    private static void leafOfTheSignature() {
        Due.sentence("9: The leaf of the signature at hand");
        Due.due("the first", signed(4, 0).leaf(), 0);
        Due.due("the last", signed(4, 15).leaf(), 15);
        LeafSigner x = signed(1, 1);
        x.sign();
        Due.due("when all are used", x.leaf(), 1);
        x.setLeaf(MOST);
        Due.due("set to the most", x.leaf(), MOST);
        x.setLeaf(0);
        Due.due("set to the least", x.leaf(), 0);
    }

    private static void leafNone() {
        Due.sentence("9: NONE when there is none");
        for (Stage stage : new Stage[] {Stage.NEW, Stage.BEGUN, Stage.HALF_GROWN, Stage.GROWN}) {
            LeafSigner x = stage.make();
            Due.due(stage + ", leaf()", x.leaf(), NONE);
            x.setLeaf(0);
            Due.due(stage + ", leaf() after setLeaf", x.leaf(), NONE);
        }
        LeafSigner x = signed(1, 0);
        x.setLeaf(MOST);
        x.begin(1, 2, 3, 1);
        Due.due("begun anew, leaf()", x.leaf(), NONE);
    }

    // Promise 10: part

    private static void partHalves() {
        Due.sentence("10: A half of part k .. 0 when there is none such: no such half");
        LeafSigner x = signed(1, 0);
        for (int k = 0; k < 36; k++) {
            Due.dueOther("part " + k, x.part(k, 0), 0);
            Due.dueOther("part " + k, x.part(k, 1), 0);
            Due.dueOther("part " + k, x.part(k, 1), x.part(k, 0));
            for (int half : NO_HALF) {
                Due.due("part " + k + " " + half, x.part(k, half), 0);
            }
        }
    }

    private static void partNoneSuchByNumber() {
        Due.sentence("10: the chains' places, then the nodes; 0 when there is none such: no such part");
        for (int height = 1; height <= 4; height++) {
            // Parts of a larger signature before it must not be seen behind this one's.
            LeafSigner x = signed(4, 0);
            x.begin(1, 2, 3, height);
            x.grow(16);
            x.sign();
            for (int k : new int[] {0, 34, 35, 34 + height}) {
                Due.dueOther("part " + k + " of height " + height, x.part(k, 0), 0);
                Due.dueOther("part " + k + " of height " + height, x.part(k, 1), 0);
            }
            for (int level = 0; level < height; level++) {
                Due.due("part " + (35 + level), x.part(35 + level, 0), x.node(level, 1, 0));
                Due.due("part " + (35 + level), x.part(35 + level, 1), x.node(level, 1, 1));
            }
            for (int k : new int[] {-1, -35, LEAST, 35 + height, 36 + height, 39, 40, 64, MOST}) {
                Due.due("part " + k + " of height " + height, x.part(k, 0), 0);
                Due.due("part " + k + " of height " + height, x.part(k, 1), 0);
            }
            Due.due("both at the lower end", x.part(LEAST, LEAST), 0);
            Due.due("both at the upper end", x.part(MOST, MOST), 0);
        }
    }

    private static void partNoSignature() {
        Due.sentence("10: 0 when there is none such: no signature");
        LeafSigner x = signed(4, 15);
        x.begin(1, 2, 3, 4);
        x.grow(16);
        for (int k = 0; k <= 39; k++) {
            Due.due("part " + k, x.part(k, 0), 0);
            Due.due("part " + k, x.part(k, 1), 0);
        }
    }

    // Promise 11: setLeaf

    private static void setLeafAnyNumber() {
        Due.sentence("11: Another leaf in the signature at hand (any number from 0 on): 1");
        for (int height = 1; height <= 4; height++) {
            LeafSigner x = signed(height, 0);
            int all = 1 << height;
            for (int leaf : new int[] {0, 1, all - 1, all, all + 1, 16, 1 << 16, MOST - 1, MOST, 0}) {
                Due.due("setLeaf " + leaf, x.setLeaf(leaf), 1);
                Due.due("leaf()", x.leaf(), leaf);
                Due.due("parts", x.count(4), 35 + height);
                Due.due("used", x.count(2), 1);
            }
            Due.due("sign()", x.sign(), 1);
        }
    }

    private static void setLeafBelowZero() {
        Due.sentence("11: 0 when .. it is less than 0");
        for (int leaf : BELOW_ZERO) {
            dueNothingDone("setLeaf " + leaf, 0, x -> x.setLeaf(leaf), Stage.values());
        }
    }

    private static void setLeafNoSignature() {
        Due.sentence("11: 0 when there is none");
        for (int leaf : new int[] {0, 1, 2, MOST}) {
            dueNothingDone("setLeaf " + leaf, 0, x -> x.setLeaf(leaf),
                    Stage.NEW, Stage.BEGUN, Stage.HALF_GROWN, Stage.GROWN);
        }
    }

    // Promise 12: setPart

    private static void setPartEach() {
        Due.sentence("12: Another half of a part: 1");
        for (int height = 1; height <= 4; height++) {
            for (int half = 0; half < 2; half++) {
                LeafSigner x = signed(height, 0);
                LeafSigner before = signed(height, 0);
                for (int k = 0; k < 35 + height; k++) {
                    Due.due("setPart " + k + " " + half, x.setPart(k, half, 1000 + k), 1);
                }
                for (int k = 0; k < 35 + height; k++) {
                    Due.due("part " + k + " " + half, x.part(k, half), 1000 + k);
                    Due.due("part " + k + ", the other half", x.part(k, 1 - half), before.part(k, 1 - half));
                }
                Due.due("leaf()", x.leaf(), 0);
                Due.due("check()", x.check(), 1);
            }
        }
    }

    private static void setPartAnyLong() {
        Due.sentence("12: Another half of a part: of any value");
        for (int k : new int[] {0, 34, 35, 38}) {
            LeafSigner x = signed(4, 15);
            for (long v : LONGS) {
                Due.due("setPart " + k + " 0 " + v, x.setPart(k, 0, v), 1);
                Due.due("setPart " + k + " 1 " + ~v, x.setPart(k, 1, ~v), 1);
                Due.due("part " + k, x.part(k, 0), v);
                Due.due("part " + k, x.part(k, 1), ~v);
            }
        }
    }

    private static void setPartNoneSuch() {
        Due.sentence("12: 0 when there is none such");
        for (int half : NO_HALF) {
            for (int k : new int[] {0, 1, 34, 36}) {
                dueNothingDone("setPart " + k + " " + half, 0, x -> x.setPart(k, half, 5), Stage.SIGNED);
            }
        }
        for (int k : new int[] {-1, -2, LEAST, 37, 38, 39, 40, 64, MOST}) {
            for (int half = 0; half < 2; half++) {
                int which = half;
                dueNothingDone("setPart " + k + " " + half, 0, x -> x.setPart(k, which, 5), Stage.SIGNED);
            }
        }
        dueNothingDone("setPart at the lower ends", 0, x -> x.setPart(LEAST, LEAST, Long.MIN_VALUE), Stage.values());
        dueNothingDone("setPart at the upper ends", 0, x -> x.setPart(MOST, MOST, Long.MAX_VALUE), Stage.values());
        for (int height = 1; height <= 4; height++) {
            LeafSigner x = signed(height, 0);
            Due.due("the last part", x.setPart(34 + height, 1, 5), 1);
            Due.due("the first past it", x.setPart(35 + height, 0, 5), 0);
            Due.due("the first past it", x.setPart(35 + height, 1, 5), 0);
        }
    }

    private static void setPartNoSignature() {
        Due.sentence("12: 0 when there is none such: no signature");
        for (int k : new int[] {0, 34, 35, 36, 38}) {
            for (int half = 0; half < 2; half++) {
                int which = half;
                dueNothingDone("setPart " + k + " " + half, 0, x -> x.setPart(k, which, 5),
                        Stage.NEW, Stage.BEGUN, Stage.HALF_GROWN, Stage.GROWN);
            }
        }
    }

    // Promise 13: tell

    private static void tellEachHalf() {
        Due.sentence("13: Tells the verifier a half of the root: 1");
        for (long v : LONGS) {
            for (int half = 0; half < 2; half++) {
                LeafSigner x = signed(2, 3);
                tellRoot(x, 2);
                Due.due("verify()", x.verify(), 0);
                Due.due("tell " + half + " " + v, x.tell(half, v), 1);
                Due.due("verify()", x.verify(), 2);
                Due.due("tell the half again", x.tell(half, x.node(2, 0, half)), 1);
                Due.due("verify()", x.verify(), 0);
            }
        }
    }

    private static void tellNoSuchHalf() {
        Due.sentence("13: 0 when there is no such half");
        for (int half : NO_HALF) {
            for (long v : new long[] {Long.MIN_VALUE, 5, Long.MAX_VALUE}) {
                dueNothingDone("tell " + half, 0, x -> x.tell(half, v), Stage.SIGNED, Stage.USED_UP);
            }
            dueNothingDone("tell " + half, 0, x -> x.tell(half, 5), Stage.values());
        }
    }

    // Promise 14: verify

    private static void verifyGenuine() {
        Due.sentence("14: Checks the signature at hand with the message: 0");
        for (int height = 1; height <= 4; height++) {
            LeafSigner x = grown(height);
            tellRoot(x, height);
            for (int leaf = 0; leaf < 1 << height; leaf++) {
                x.feed(leaf % 2 == 0 ? Long.MIN_VALUE : Long.MAX_VALUE);
                Due.due("sign()", x.sign(), leaf);
                Due.due("verify(), leaf " + leaf, x.verify(), 0);
            }
            Due.due("sign()", x.sign(), USED);
            Due.due("verify() when all are used", x.verify(), 0);
        }
    }

    private static void verifyLeafIsNone() {
        Due.sentence("14: 1 when the leaf is none");
        for (int height = 1; height <= 4; height++) {
            int all = 1 << height;
            LeafSigner x = signed(height, all - 1);
            tellRoot(x, height);
            Due.due("verify() of the last leaf", x.verify(), 0);
            for (int leaf : new int[] {all, all + 1, 2 * all - 1, 2 * all, 1 << 30, MOST}) {
                x.setLeaf(leaf);
                Due.due("verify() of leaf " + leaf + " of " + all, x.verify(), 1);
            }
            x.setPart(0, 0, 5);
            x.feed(5);
            x.tell(0, 5);
            Due.due("verify() whatever else is wrong", x.verify(), 1);
            x.setLeaf(all - 1);
            Due.due("verify() of the last leaf", x.verify(), 2);
            x.setLeaf(0);
            Due.due("verify() of the first leaf", x.verify(), 2);
        }
    }

    private static void verifyAnotherRootByPart() {
        Due.sentence("14: 2 when it gives another root: by each half of each part");
        for (int height : new int[] {1, 4}) {
            for (int bit : new int[] {0, 63}) {
                LeafSigner x = signed(height, 1);
                tellRoot(x, height);
                for (int k = 0; k < 35 + height; k++) {
                    for (int half = 0; half < 2; half++) {
                        long v = x.part(k, half);
                        x.setPart(k, half, v ^ 1L << bit);
                        Due.due("part " + k + " " + half + ", bit " + bit, x.verify(), 2);
                        x.setPart(k, half, v);
                    }
                }
                Due.due("as it was", x.verify(), 0);
            }
        }
    }

    private static void verifyAnotherRootByRootTold() {
        Due.sentence("14: 2 when it gives another root: by each bit of the root told");
        for (int half = 0; half < 2; half++) {
            LeafSigner x = signed(2, 1);
            tellRoot(x, 2);
            long root = x.node(2, 0, half);
            for (int bit = 0; bit < 64; bit++) {
                x.tell(half, root ^ 1L << bit);
                Due.due("half " + half + ", bit " + bit, x.verify(), 2);
            }
            x.tell(half, root);
            Due.due("as it was", x.verify(), 0);
        }
    }

    private static void verifyAnotherRootByMessage() {
        Due.sentence("14: 2 when it gives another root: by the message, from empty to full");
        for (int signedLongs : new int[] {0, 19, 20}) {
            LeafSigner x = grown(1);
            tellRoot(x, 1);
            feed(x, signedLongs);
            x.sign();
            x.reset();
            for (int n = 0; n <= 20; n++) {
                Due.due("signed " + signedLongs + ", now " + n, x.verify(), n == signedLongs ? 0 : 2);
                x.feed(n);
            }
        }
    }

    private static void verifyNoSignature() {
        Due.sentence("14: NONE when there is no signature");
        for (Stage stage : new Stage[] {Stage.NEW, Stage.BEGUN, Stage.HALF_GROWN, Stage.GROWN}) {
            LeafSigner x = stage.make();
            Due.due(stage + ", verify()", x.verify(), NONE);
            x.setLeaf(MOST);
            x.setPart(0, 0, 5);
            Due.due(stage + ", verify() after a set", x.verify(), NONE);
        }
        LeafSigner x = signed(1, 0);
        tellRoot(x, 1);
        x.begin(1, 2, 3, 1);
        Due.due("begun anew, verify()", x.verify(), NONE);
        x.grow(2);
        Due.due("grown anew, verify()", x.verify(), NONE);
    }

    // Promise 15: hash

    private static void hashAnyKind() {
        Due.sentence("15: A half of the hash of a kind (any int) of the message's longs");
        LeafSigner empty = new LeafSigner();
        LeafSigner full = new LeafSigner();
        feed(full, 20);
        long first = full.hash(2, 0);
        long second = full.hash(2, 1);
        for (int kind : new int[] {LEAST, LEAST + 1, -1, 0, 1, 5, 6, MOST - 1, MOST}) {
            Due.due("hash " + kind + " 0 of none", empty.hash(kind, 0), kind);
            Due.due("hash " + kind + " 1 of none", empty.hash(kind, 1), 0);
            Due.dueOther("hash " + kind + " 0 of 20", full.hash(kind, 0), first);
            Due.dueOther("hash " + kind + " 1 of 20", full.hash(kind, 1), second);
        }
    }

    private static void hashNoSuchHalf() {
        Due.sentence("15: 0 when there is no such half");
        for (int n : new int[] {0, 1, 20}) {
            LeafSigner x = new LeafSigner();
            feed(x, n);
            for (int half : NO_HALF) {
                for (int kind : new int[] {LEAST, -1, 0, 5, MOST}) {
                    Due.due("hash " + kind + " " + half, x.hash(kind, half), 0);
                }
            }
        }
    }

    // Promise 16: count

    private static void countLeavesInAll() {
        Due.sentence("16: Leaves in all (what 0)");
        Due.due("new", new LeafSigner().count(0), 2);
        for (int height = 1; height <= 4; height++) {
            Due.due("begun " + height, begun(height).count(0), 1 << height);
            Due.due("grown " + height, grown(height).count(0), 1 << height);
            Due.due("used " + height, signed(height, (1 << height) - 1).count(0), 1 << height);
        }
    }

    private static void countMade() {
        Due.sentence("16: made (1)");
        for (int height = 1; height <= 4; height++) {
            LeafSigner x = begun(height);
            for (int made = 0; made <= 1 << height; made++) {
                Due.due("made", x.count(1), made);
                x.grow(1);
            }
            Due.due("made, grown once too often", x.count(1), 1 << height);
            x.sign();
            Due.due("made, one used", x.count(1), 1 << height);
        }
    }

    private static void countUsed() {
        Due.sentence("16: used (2)");
        for (int height = 1; height <= 4; height++) {
            LeafSigner x = grown(height);
            for (int used = 0; used <= 1 << height; used++) {
                Due.due("used", x.count(2), used);
                x.sign();
            }
            Due.due("used, signed once too often", x.count(2), 1 << height);
        }
    }

    private static void countLongs() {
        Due.sentence("16: the message's longs (3)");
        LeafSigner x = new LeafSigner();
        for (int n = 0; n <= 20; n++) {
            Due.due("longs", x.count(3), n);
            x.feed(0);
        }
        Due.due("longs, fed once too often", x.count(3), 20);
        x.reset();
        Due.due("longs, reset", x.count(3), 0);
    }

    private static void countParts() {
        Due.sentence("16: the signature's parts (4)");
        for (int height = 1; height <= 4; height++) {
            LeafSigner x = grown(height);
            Due.due("parts of no signature", x.count(4), 0);
            x.sign();
            Due.due("parts of the first", x.count(4), 35 + height);
            x.setLeaf(MOST);
            Due.due("parts of one whose leaf is none", x.count(4), 35 + height);
            for (int i = 0; i < 16; i++) {
                x.sign();
            }
            Due.due("parts of the last", x.count(4), 35 + height);
            x.begin(1, 2, 3, 1);
            Due.due("parts when begun anew", x.count(4), 0);
        }
    }

    private static void countOthers() {
        Due.sentence("16: NONE for others");
        for (Stage stage : Stage.values()) {
            LeafSigner x = stage.make();
            for (int what : new int[] {-1, -2, LEAST, 5, 6, 32, MOST}) {
                Due.due(stage + ", count " + what, x.count(what), NONE);
            }
            for (int what = 0; what <= 4; what++) {
                Due.dueOther(stage + ", count " + what, x.count(what), NONE);
            }
        }
    }

    // Promise 17: check

    private static void checkEmptyToFull() {
        Due.sentence("17: Whether each node that is made is the hash of its two: 1");
        for (Stage stage : Stage.values()) {
            Due.due(stage + ", check()", stage.make().check(), 1);
        }
        for (int height = 1; height <= 4; height++) {
            LeafSigner x = grown(4);
            x.begin(-1, Long.MIN_VALUE, Long.MAX_VALUE, height);
            for (int made = 0; made <= 1 << height; made++) {
                Due.due("check(), made " + made + " of height " + height, x.check(), 1);
                x.grow(1);
            }
        }
    }

    /**
     * No run of calls makes a node wrong, so one long after the other is changed behind the object's
     * back: those of nodes that have a node made above them, or are one, must be seen, and no others.
     */
    private static void checkWouldTellZero() throws IllegalAccessException {
        Due.sentence("17: it would tell 0");
        for (int height = 1; height <= 4; height++) {
            for (int made = 0; made <= 1 << height; made++) {
                LeafSigner x = begun(height);
                x.grow(made);
                int seen = 0;
                List<long[]> rows = new ArrayList<>();
                collectRows(x, rows);
                for (long[] row : rows) {
                    for (int i = 0; i < row.length; i++) {
                        row[i] ^= Long.MIN_VALUE;
                        seen += x.check() == 0 ? 1 : 0;
                        row[i] ^= Long.MIN_VALUE;
                    }
                }
                Due.due("longs seen, made " + made + " of height " + height, seen, 2 * nodesChecked(made));
                Due.due("check() after it", x.check(), 1);
            }
        }
    }

    private static int nodesChecked(int made) {
        // Two leaves are below each node of level 1; the nodes above them are counted as they are.
        int nodes = made / 2 * 2;
        for (int level = 1; level <= 4; level++) {
            nodes += made >> level;
        }
        return nodes;
    }

    /** How the state is held is free: so every row of longs that the object holds is taken. */
    private static void collectRows(Object of, List<long[]> rows) throws IllegalAccessException {
        if (of instanceof long[] row) {
            rows.add(row);
        } else if (of != null && of.getClass().isArray() && !of.getClass().getComponentType().isPrimitive()) {
            for (int i = 0; i < Array.getLength(of); i++) {
                collectRows(Array.get(of, i), rows);
            }
        } else if (of != null && of.getClass().getName().startsWith("LeafSigner")) {
            for (Field field : of.getClass().getDeclaredFields()) {
                if (!Modifier.isStatic(field.getModifiers()) && !field.getType().isPrimitive()) {
                    field.setAccessible(true);
                    collectRows(field.get(of), rows);
                }
            }
        }
    }

    // All promises

    private static void lookingDoesNothing() {
        Due.sentence("4, 7, 9, 10, 14 to 17: calls that only look, at both ends of int too");
        dueNothingDone("looking", 0, LeafSignerEdges::lookAtTheEnds, Stage.values());
    }

    private static int lookAtTheEnds(LeafSigner x) {
        for (int v : new int[] {LEAST, -1, 0, 1, MOST}) {
            x.node(v, 0, 0);
            x.node(0, v, 1);
            x.node(0, 0, v);
            x.digit(v, 0);
            x.digit(0, v);
            x.part(v, 0);
            x.part(0, v);
            x.hash(v, 0);
            x.hash(0, v);
            x.count(v);
            x.leaf();
            x.verify();
            x.check();
        }
        return 0;
    }

    // What the tests share

    /** What an object can have been through when a call comes. */
    private enum Stage {
        NEW, BEGUN, HALF_GROWN, GROWN, SIGNED, FORGED, USED_UP;

        LeafSigner make() {
            LeafSigner x = new LeafSigner();
            switch (this) {
                case NEW -> { }
                case BEGUN -> x.begin(-1, -2, -3, 4);
                case HALF_GROWN -> {
                    x.begin(4, 5, 6, 3);
                    x.grow(5);
                    feed(x, 2);
                }
                case GROWN -> {
                    x.begin(7, 8, 9, 4);
                    x.grow(16);
                    feed(x, 20);
                    tellRoot(x, 4);
                }
                case SIGNED -> signAtHeightTwo(x);
                case FORGED -> {
                    signAtHeightTwo(x);
                    x.setLeaf(4);
                    x.setPart(36, 1, -1);
                }
                case USED_UP -> {
                    x.grow(2);
                    tellRoot(x, 1);
                    x.sign();
                    x.sign();
                }
            }
            return x;
        }

        private static void signAtHeightTwo(LeafSigner x) {
            x.begin(1, 2, 3, 2);
            x.grow(4);
            feed(x, 1);
            tellRoot(x, 2);
            x.sign();
            x.sign();
        }
    }

    /** Of two objects that have been through the same one gets the call: it must not be told by it. */
    private static void dueNothingDone(String call, int want, ToIntFunction<LeafSigner> refused, Stage... stages) {
        for (Stage stage : stages) {
            LeafSigner x = stage.make();
            Due.due(stage + ", " + call, refused.applyAsInt(x), want);
            dueSame(stage + ", " + call, x, stage.make());
        }
    }

    private static void dueSame(String call, LeafSigner x, LeafSigner other) {
        dueSame(call, all(x), all(other));
    }

    private static void dueSame(String call, List<String> got, List<String> want) {
        for (int i = 0; i < want.size(); i++) {
            if (!got.get(i).equals(want.get(i))) {
                Due.tellWrong(call + ", then " + got.get(i) + ", due is " + want.get(i));
            }
        }
    }

    /** All that an object tells, and then how it goes on: that tells what can't be asked for. */
    private static List<String> all(LeafSigner x) {
        List<String> told = new ArrayList<>();
        addLooks(told, x);
        told.add("feed " + x.feed(3));
        told.add("verify " + x.verify());
        told.add("grow " + x.grow(1));
        told.add("grow " + x.grow(MOST));
        told.add("sign " + x.sign());
        told.add("verify " + x.verify());
        addLooks(told, x);
        told.add("reset " + x.reset());
        return told;
    }

    private static void addLooks(List<String> told, LeafSigner x) {
        for (int what = 0; what <= 4; what++) {
            told.add("count " + what + ": " + x.count(what));
        }
        told.add("leaf " + x.leaf());
        told.add("verify " + x.verify());
        told.add("hash " + x.hash(1, 0));
        told.add("check " + x.check());
        for (int k = 0; k < 39; k++) {
            told.add("part " + k + ": " + x.part(k, 0) + " " + x.part(k, 1));
        }
        for (int level = 0; level <= 4; level++) {
            for (int i = 0; i < 16 >> level; i++) {
                told.add("node " + level + " " + i + ": " + x.node(level, i, 0) + " " + x.node(level, i, 1));
            }
        }
        for (int k = 0; k < 35; k++) {
            told.add("digit " + k + ": " + x.digit(1, k));
        }
    }

    private static void dueNoSignature(String when, LeafSigner x) {
        Due.due(when + ", leaf()", x.leaf(), NONE);
        Due.due(when + ", verify()", x.verify(), NONE);
        Due.due(when + ", parts", x.count(4), 0);
        Due.due(when + ", part(0, 0)", x.part(0, 0), 0);
        Due.due(when + ", part(35, 1)", x.part(35, 1), 0);
        Due.due(when + ", setLeaf(0)", x.setLeaf(0), 0);
        Due.due(when + ", setPart(0, 0, 5)", x.setPart(0, 0, 5), 0);
        Due.due(when + ", part(0, 0) after it", x.part(0, 0), 0);
    }

    private static void dueGrown(int height, int made, int n, int left) {
        LeafSigner x = begun(height);
        if (made > 0) {
            x.grow(made);
        }
        String call = "grow " + n + " when made are " + made + " of height " + height;
        Due.due(call, x.grow(n), left);
        Due.due(call + ", made", x.count(1), (1 << height) - left);
        Due.due(call + ", root is made", x.node(height, 0, 0) == 0 ? 0 : 1, left == 0 ? 1 : 0);
    }

    private static void dueDigit(String call, int got) {
        if (got < 0 || got > 15) {
            Due.tellWrong(call + " answered " + got + ", due is a digit");
        }
    }

    private static LeafSigner begun(int height) {
        LeafSigner x = new LeafSigner();
        x.begin(1, 2, 3, height);
        return x;
    }

    private static LeafSigner grown(int height) {
        LeafSigner x = begun(height);
        x.grow(1 << height);
        return x;
    }

    private static LeafSigner signed(int height, int leaf) {
        LeafSigner x = grown(height);
        for (int i = 0; i <= leaf; i++) {
            x.sign();
        }
        return x;
    }

    private static void tellRoot(LeafSigner x, int height) {
        x.tell(0, x.node(height, 0, 0));
        x.tell(1, x.node(height, 0, 1));
    }

    private static void feed(LeafSigner x, int n) {
        for (int i = 0; i < n; i++) {
            x.feed(i);
        }
    }
}
