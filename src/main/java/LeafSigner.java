/**
 * Signatures from hashes alone: chains of hashes for each digit of a message's digest, leaves of a
 * tree over all chains' ends, a signer that uses each leaf once, a verifier that has the root alone.
 */
public final class LeafSigner {
    public static final int NONE = -1;
    public static final int USED = -2;

    private static final int LOWEST_HEIGHT = 1;
    private static final int HIGHEST_HEIGHT = 4;
    private static final int CHAINS = 35;

    private static final int GENUINE = 0;
    private static final int NO_SUCH_LEAF = 1;
    private static final int ANOTHER_ROOT = 2;

    private final Keys keys;
    private final Hasher hasher;
    private final Chains chains;
    private final Tree tree;
    private final Message message;
    private final Digits digits;
    private final Signature signature;
    private final Pairs told;
    private int used;

    public LeafSigner() {
        keys = new Keys();
        hasher = new Hasher();
        chains = new Chains();
        tree = new Tree();
        message = new Message();
        digits = new Digits();
        signature = new Signature();
        told = new Pairs(1);
        used = 0;
    }

    public int begin(long one, long two, long open, int height) {
        if (height < LOWEST_HEIGHT || height > HIGHEST_HEIGHT) {
            return 0;
        }
        keys.renew(one, two, open, height);
        tree.clear();
        signature.clear();
        used = 0;
        return 1;
    }

    public int grow(int n) {
        if (n < 1) {
            return NONE;
        }
        // Taking the lesser one first keeps made + n from running over.
        int more = Math.min(n, keys.leaves() - tree.made);
        for (int i = 0; i < more; i++) {
            int next = tree.made;
            chains.makeEnds(keys, next);
            hasher.hashLeaf(keys.open, next, chains.ends);
            tree.addLeaf(keys, hasher);
        }
        return keys.leaves() - tree.made;
    }

    public long node(int level, int i, int half) {
        if (!isHalf(half) || !tree.isMade(keys.height, level, i)) {
            return 0;
        }
        return tree.nodes.at(Tree.slot(keys.height, level, i), half);
    }

    public int feed(long x) {
        if (message.isFull()) {
            return NONE;
        }
        message.append(x);
        return message.size;
    }

    public int reset() {
        int had = message.size;
        message.clear();
        return had;
    }

    public int digit(int leaf, int k) {
        if (!keys.hasLeaf(leaf) || k < 0 || k >= CHAINS || !isRootMade()) {
            return NONE;
        }
        readDigits(leaf, tree.nodes, Tree.ROOT);
        return digits.values[k];
    }

    public int sign() {
        if (!isRootMade()) {
            return NONE;
        }
        if (used >= keys.leaves()) {
            return USED;
        }
        int next = used;
        used++;
        readDigits(next, tree.nodes, Tree.ROOT);
        signature.open(next, CHAINS + keys.height);
        for (int chain = 0; chain < CHAINS; chain++) {
            chains.makeStart(keys, next, chain, signature.parts);
            chains.carry(keys.open, next, chain, 0, digits.values[chain], signature.parts);
        }
        for (int level = 0; level < keys.height; level++) {
            int beside = Tree.slot(keys.height, level, next >> level) ^ 1;
            signature.parts.copy(CHAINS + level, tree.nodes, beside);
        }
        return next;
    }

    public int leaf() {
        return signature.leaf;
    }

    public long part(int k, int half) {
        if (!isHalf(half) || !signature.hasPart(k)) {
            return 0;
        }
        return signature.parts.at(k, half);
    }

    public int setLeaf(int leaf) {
        if (!signature.isThere() || leaf < 0) {
            return 0;
        }
        signature.leaf = leaf;
        return 1;
    }

    public int setPart(int k, int half, long v) {
        if (!isHalf(half) || !signature.hasPart(k)) {
            return 0;
        }
        signature.parts.put(k, half, v);
        return 1;
    }

    public int tell(int half, long v) {
        if (!isHalf(half)) {
            return 0;
        }
        told.put(0, half, v);
        return 1;
    }

    public int verify() {
        if (!signature.isThere()) {
            return NONE;
        }
        if (!keys.hasLeaf(signature.leaf)) {
            return NO_SUCH_LEAF;
        }
        readDigits(signature.leaf, told, 0);
        chains.carryAllToEnds(keys.open, signature, digits);
        hasher.hashLeaf(keys.open, signature.leaf, chains.ends);
        climbToRoot();
        return hasher.gave(told, 0) ? GENUINE : ANOTHER_ROOT;
    }

    public long hash(int kind, int half) {
        if (!isHalf(half)) {
            return 0;
        }
        hasher.start(kind, message.size);
        hasher.addMessage(message);
        return half == 0 ? hasher.a : hasher.b;
    }

    public int count(int what) {
        switch (what) {
            case 0:
                return keys.leaves();
            case 1:
                return tree.made;
            case 2:
                return used;
            case 3:
                return message.size;
            case 4:
                return signature.size;
            default:
                return NONE;
        }
    }

    public int check() {
        for (int level = 1; level <= keys.height; level++) {
            int nodesMade = tree.made >> level;
            for (int i = 0; i < nodesMade; i++) {
                tree.hashNode(keys, level, i, hasher);
                if (!hasher.gave(tree.nodes, Tree.slot(keys.height, level, i))) {
                    return 0;
                }
            }
        }
        return 1;
    }

    private static boolean isHalf(int half) {
        return half == 0 || half == 1;
    }

    private boolean isRootMade() {
        return tree.isMade(keys.height, keys.height, 0);
    }

    /** The root is an argument: the signer has its own, the verifier only the one told. */
    private void readDigits(int leaf, Pairs roots, int at) {
        hasher.start(Hasher.DIGEST, 4 + message.size);
        hasher.add(keys.open);
        hasher.add(leaf);
        hasher.addPair(roots, at);
        hasher.addMessage(message);
        digits.read(hasher.a, hasher.b);
    }

    /** From the leaf's value in the hasher to that of the root, by the nodes of the signature. */
    private void climbToRoot() {
        for (int level = 1; level <= keys.height; level++) {
            long a = hasher.a;
            long b = hasher.b;
            int below = signature.leaf >> (level - 1);
            int beside = CHAINS + level - 1;
            hasher.startNode(keys.open, level, below >> 1);
            if ((below & 1) == 0) {
                hasher.add(a);
                hasher.add(b);
                hasher.addPair(signature.parts, beside);
            } else {
                hasher.addPair(signature.parts, beside);
                hasher.add(a);
                hasher.add(b);
            }
        }
    }

    /** The secrets, the public long and the height. */
    private static final class Keys {
        long one;
        long two;
        long open;
        int height;

        Keys() {
            height = LOWEST_HEIGHT;
        }

        void renew(long newOne, long newTwo, long newOpen, int newHeight) {
            one = newOne;
            two = newTwo;
            open = newOpen;
            height = newHeight;
        }

        int leaves() {
            return 1 << height;
        }

        boolean hasLeaf(int leaf) {
            return leaf >= 0 && leaf < leaves();
        }
    }

    /** A row of hashes, two longs each, in one array so that a row is one object's cost. */
    private static final class Pairs {
        private final long[] longs;

        Pairs(int size) {
            longs = new long[2 * size];
        }

        long at(int index, int half) {
            return longs[2 * index + half];
        }

        void put(int index, int half, long v) {
            longs[2 * index + half] = v;
        }

        void copy(int index, Pairs from, int at) {
            put(index, 0, from.at(at, 0));
            put(index, 1, from.at(at, 1));
        }
    }

    /** The document's hash, taken long by long so that no row of its inputs is ever made. */
    private static final class Hasher {
        static final int START_OF_CHAIN = 1;
        static final int NEXT_PLACE = 2;
        static final int LEAF = 3;
        static final int NODE = 4;
        static final int DIGEST = 5;

        long a;
        long b;

        void start(int kind, int n) {
            a = kind;
            b = n;
        }

        void add(long x) {
            a = mixed(a ^ x);
            b = mixed(b + a);
        }

        void addPair(Pairs row, int at) {
            add(row.at(at, 0));
            add(row.at(at, 1));
        }

        void addMessage(Message message) {
            for (int i = 0; i < message.size; i++) {
                add(message.longs[i]);
            }
        }

        void hashLeaf(long open, int leaf, Pairs ends) {
            start(LEAF, 2 + 2 * CHAINS);
            add(open);
            add(leaf);
            for (int chain = 0; chain < CHAINS; chain++) {
                addPair(ends, chain);
            }
        }

        /** The caller adds the two nodes below, which the signer and the verifier hold apart. */
        void startNode(long open, int level, int i) {
            start(NODE, 7);
            add(open);
            add(level);
            add(i);
        }

        void giveTo(Pairs row, int at) {
            row.put(at, 0, a);
            row.put(at, 1, b);
        }

        boolean gave(Pairs row, int at) {
            return row.at(at, 0) == a && row.at(at, 1) == b;
        }

        private static long mixed(long x) {
            long y = (x ^ (x >>> 30)) * 0xBF58476D1CE4E5B9L;
            long z = (y ^ (y >>> 27)) * 0x94D049BB133111EBL;
            return z ^ (z >>> 31);
        }
    }

    /** A leaf's chains. A place stands in its row at the number of its chain. */
    private static final class Chains {
        static final int LAST_PLACE = 15;

        final Pairs ends;
        private final Hasher hasher;

        Chains() {
            ends = new Pairs(CHAINS);
            hasher = new Hasher();
        }

        void makeStart(Keys keys, int leaf, int chain, Pairs row) {
            hasher.start(Hasher.START_OF_CHAIN, 4);
            hasher.add(keys.one);
            hasher.add(keys.two);
            hasher.add(leaf);
            hasher.add(chain);
            hasher.giveTo(row, chain);
        }

        void carry(long open, int leaf, int chain, int from, int to, Pairs row) {
            for (int place = from; place < to; place++) {
                hasher.start(Hasher.NEXT_PLACE, 6);
                hasher.add(open);
                hasher.add(leaf);
                hasher.add(chain);
                hasher.add(place);
                hasher.addPair(row, chain);
                hasher.giveTo(row, chain);
            }
        }

        void makeEnds(Keys keys, int leaf) {
            for (int chain = 0; chain < CHAINS; chain++) {
                makeStart(keys, leaf, chain, ends);
                carry(keys.open, leaf, chain, 0, LAST_PLACE, ends);
            }
        }

        /** Works on a copy of the places, for the signature at hand stays as it is. */
        void carryAllToEnds(long open, Signature signature, Digits digits) {
            for (int chain = 0; chain < CHAINS; chain++) {
                ends.copy(chain, signature.parts, chain);
                carry(open, signature.leaf, chain, digits.values[chain], LAST_PLACE, ends);
            }
        }
    }

    /**
     * The nodes, the root in slot 1 and those below slot s in 2 s and 2 s + 1: so a node's
     * neighbour differs from it in the lowest bit alone, whatever the height.
     */
    private static final class Tree {
        static final int ROOT = 1;

        final Pairs nodes;
        int made;

        Tree() {
            nodes = new Pairs(2 << HIGHEST_HEIGHT);
            made = 0;
        }

        static int slot(int height, int level, int i) {
            return (1 << (height - level)) + i;
        }

        /** What nodes held before stays in the row: it is not made until leaves come over it. */
        void clear() {
            made = 0;
        }

        boolean isMade(int height, int level, int i) {
            return level >= 0 && level <= height && i >= 0 && i < (made >> level);
        }

        /** Takes the next leaf's value from the hasher, and makes all nodes that it completes. */
        void addLeaf(Keys keys, Hasher hasher) {
            hasher.giveTo(nodes, slot(keys.height, 0, made));
            made++;
            for (int level = 1; level <= keys.height; level++) {
                int wide = 1 << level;
                if ((made & (wide - 1)) != 0) {
                    break;
                }
                int i = (made >> level) - 1;
                hashNode(keys, level, i, hasher);
                hasher.giveTo(nodes, slot(keys.height, level, i));
            }
        }

        void hashNode(Keys keys, int level, int i, Hasher hasher) {
            hasher.startNode(keys.open, level, i);
            hasher.addPair(nodes, slot(keys.height, level - 1, 2 * i));
            hasher.addPair(nodes, slot(keys.height, level - 1, 2 * i + 1));
        }
    }

    /** The longs to be signed or checked. */
    private static final class Message {
        private static final int MOST = 20;

        final long[] longs;
        int size;

        Message() {
            longs = new long[MOST];
            size = 0;
        }

        boolean isFull() {
            return size >= MOST;
        }

        void append(long x) {
            longs[size] = x;
            size++;
        }

        void clear() {
            size = 0;
        }
    }

    /** A digest's digits, and behind them those of what they lack. */
    private static final class Digits {
        private static final int OF_A_LONG = 16;
        private static final int OF_DIGEST = 32;
        private static final int HIGHEST = 15;

        final int[] values;

        Digits() {
            values = new int[CHAINS];
        }

        void read(long first, long second) {
            int lack = 0;
            for (int k = 0; k < OF_DIGEST; k++) {
                long half = k < OF_A_LONG ? first : second;
                values[k] = fourBits(half, OF_A_LONG - 1 - k % OF_A_LONG);
                lack += HIGHEST - values[k];
            }
            for (int k = OF_DIGEST; k < CHAINS; k++) {
                values[k] = fourBits(lack, CHAINS - 1 - k);
            }
        }

        private static int fourBits(long of, int fromLowest) {
            return (int) (of >>> (4 * fromLowest)) & HIGHEST;
        }
    }

    /** The signature at hand; there is none while its leaf is NONE. */
    private static final class Signature {
        final Pairs parts;
        int leaf;
        int size;

        Signature() {
            parts = new Pairs(CHAINS + HIGHEST_HEIGHT);
            leaf = NONE;
            size = 0;
        }

        void open(int newLeaf, int newSize) {
            leaf = newLeaf;
            size = newSize;
        }

        void clear() {
            leaf = NONE;
            size = 0;
        }

        boolean isThere() {
            return leaf != NONE;
        }

        boolean hasPart(int k) {
            return k >= 0 && k < size;
        }
    }
}
