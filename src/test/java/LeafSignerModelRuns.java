import java.util.ArrayList;
import java.util.HashMap;
import java.util.List;
import java.util.Map;
import java.util.Random;

/**
 * Long runs of calls, each answer held against a second reading of the document: a model that keeps
 * the least state it can and works every value out from the terms anew.
 */
public final class LeafSignerModelRuns {
    private static final int RUNS = 200;
    // The document lets an object be used for 512 calls; one step of a run makes at most six.
    private static final int CALLS = 506;
    private static final int[] EDGES = {
        Integer.MIN_VALUE, -2, -1, 0, 1, 2, 3, 4, 5, 15, 16, 17, 31, 32, 33, 34, 35, 36, 37, 38, 39,
        40, 63, 64, Integer.MAX_VALUE};

    private static int calls = 0;
    private static int wrong = 0;
    private static int genuine = 0;
    private static int usedUp = 0;

    public static void main(String[] args) {
        for (int run = 0; run < RUNS; run++) {
            playRun(run);
        }
        // Runs that never reach these answers would leave them untested without a word.
        if (genuine < 100 || usedUp < 100) {
            wrong++;
            System.out.println("too few runs verify (" + genuine + ") or use up leaves (" + usedUp + ")");
        }
        System.out.println(wrong == 0 ? "the model agrees" : wrong + " answers differ from the model");
        if (wrong != 0) {
            System.exit(1);
        }
    }

    private static void playRun(int run) {
        Random random = new Random(1000 + run);
        LeafSigner signer = new LeafSigner();
        Model model = new Model();
        calls = 0;
        while (calls <= CALLS) {
            playCall(run, random, signer, model);
        }
    }

    private static void playCall(int run, Random random, LeafSigner s, Model m) {
        int i = someInt(random, 4);
        int j = someInt(random, 16);
        int half = random.nextInt(8) == 0 ? someInt(random, 3) : random.nextInt(2);
        int k = someInt(random, 40);
        long v = someLong(random);
        switch (random.nextInt(24)) {
            case 0 -> {
                // Rarely, so that a run has time to use what it began.
                int height = random.nextInt(4) == 0 ? someInt(random, 6) : 1 + random.nextInt(4);
                if (random.nextInt(4) == 0) {
                    long one = someLong(random);
                    long two = someLong(random);
                    due(run, "begin " + height, s.begin(one, two, v, height), m.begin(one, two, v, height));
                }
            }
            case 1, 2 -> due(run, "grow " + j, s.grow(j), m.grow(j));
            case 3, 4 -> due(run, "node " + i + " " + j + " " + half, s.node(i, j, half), m.node(i, j, half));
            case 5, 6 -> due(run, "feed " + v, s.feed(v), m.feed(v));
            case 7 -> {
                if (random.nextInt(5) == 0) {
                    due(run, "reset", s.reset(), m.reset());
                }
            }
            case 8, 9 -> due(run, "digit " + j + " " + k, s.digit(j, k), m.digit(j, k));
            case 10 -> {
                int want = m.sign();
                usedUp += want == Model.USED ? 1 : 0;
                due(run, "sign", s.sign(), want);
            }
            case 11 -> due(run, "leaf", s.leaf(), m.leaf());
            case 12, 13 -> due(run, "part " + k + " " + half, s.part(k, half), m.part(k, half));
            case 14 -> due(run, "setLeaf " + j, s.setLeaf(j), m.setLeaf(j));
            case 15 -> due(run, "setPart " + k, s.setPart(k, half, v), m.setPart(k, half, v));
            case 16 -> due(run, "tell " + half, s.tell(half, v), m.tell(half, v));
            case 17, 18 -> signAndVerify(run, s, m);
            case 19 -> due(run, "verify", s.verify(), m.verify());
            case 20 -> {
                int kind = random.nextBoolean() ? random.nextInt() : someInt(random, 6);
                due(run, "hash " + kind + " " + half, s.hash(kind, half), m.hash(kind, half));
            }
            case 21, 22 -> due(run, "count " + i, s.count(i), m.count(i));
            default -> due(run, "check", s.check(), 1);
        }
    }

    /** Tells the true root and signs: by chance alone a run would hardly ever verify. */
    private static void signAndVerify(int run, LeafSigner s, Model m) {
        int height = Integer.numberOfTrailingZeros(m.count(0));
        for (int half = 0; half < 2; half++) {
            long root = m.node(height, 0, half);
            due(run, "node of the root", s.node(height, 0, half), root);
            due(run, "tell", s.tell(half, root), m.tell(half, root));
        }
        due(run, "sign", s.sign(), m.sign());
        int want = m.verify();
        genuine += want == 0 ? 1 : 0;
        due(run, "verify", s.verify(), want);
    }

    private static int someInt(Random random, int most) {
        return random.nextInt(6) == 0 ? EDGES[random.nextInt(EDGES.length)] : random.nextInt(most + 1);
    }

    private static long someLong(Random random) {
        return switch (random.nextInt(5)) {
            case 0 -> 0;
            case 1 -> -1;
            case 2 -> random.nextBoolean() ? Long.MIN_VALUE : Long.MAX_VALUE;
            default -> random.nextLong();
        };
    }

    private static void due(int run, String call, long got, long want) {
        calls++;
        if (got != want) {
            wrong++;
            System.out.println("run " + run + ": " + call + " answered " + got + ", due is " + want);
        }
    }

    private record Hash(long a, long b) {
        long half(int half) {
            return half == 0 ? a : b;
        }
    }

    private static final class Model {
        static final int NONE = -1;
        static final int USED = -2;

        private long one;
        private long two;
        private long open;
        private int height = 1;
        private int made;
        private int used;
        private final List<Long> message = new ArrayList<>();
        private int signedLeaf = NONE;
        private List<Hash> parts = new ArrayList<>();
        private Hash told = new Hash(0, 0);
        private final Map<String, Hash> known = new HashMap<>();

        int begin(long newOne, long newTwo, long newOpen, int newHeight) {
            if (newHeight < 1 || newHeight > 4) {
                return 0;
            }
            one = newOne;
            two = newTwo;
            open = newOpen;
            height = newHeight;
            made = 0;
            used = 0;
            signedLeaf = NONE;
            parts = new ArrayList<>();
            known.clear();
            return 1;
        }

        int grow(int n) {
            if (n < 1) {
                return NONE;
            }
            made = (int) Math.min((long) made + n, all());
            return all() - made;
        }

        long node(int level, int i, int half) {
            boolean there = level >= 0 && level <= height && i >= 0 && i < all();
            if (!there || half < 0 || half > 1) {
                return 0;
            }
            long leavesNeeded = (i + 1L) * (1L << level);
            return leavesNeeded <= made ? nodeHash(level, i).half(half) : 0;
        }

        int feed(long x) {
            if (message.size() == 20) {
                return NONE;
            }
            message.add(x);
            return message.size();
        }

        int reset() {
            int had = message.size();
            message.clear();
            return had;
        }

        int digit(int leaf, int k) {
            if (made < all() || leaf < 0 || leaf >= all() || k < 0 || k > 34) {
                return NONE;
            }
            return digits(leaf, nodeHash(height, 0)).charAt(k) - 'A';
        }

        int sign() {
            if (made < all()) {
                return NONE;
            }
            if (used == all()) {
                return USED;
            }
            signedLeaf = used++;
            parts = new ArrayList<>();
            String digits = digits(signedLeaf, nodeHash(height, 0));
            for (int chain = 0; chain < 35; chain++) {
                parts.add(place(signedLeaf, chain, digits.charAt(chain) - 'A'));
            }
            for (int level = 0, i = signedLeaf; level < height; level++, i /= 2) {
                parts.add(nodeHash(level, i % 2 == 0 ? i + 1 : i - 1));
            }
            return signedLeaf;
        }

        int leaf() {
            return signedLeaf;
        }

        long part(int k, int half) {
            return hasPart(k, half) ? parts.get(k).half(half) : 0;
        }

        int setLeaf(int leaf) {
            if (signedLeaf == NONE || leaf < 0) {
                return 0;
            }
            signedLeaf = leaf;
            return 1;
        }

        int setPart(int k, int half, long v) {
            if (!hasPart(k, half)) {
                return 0;
            }
            parts.set(k, withHalf(parts.get(k), half, v));
            return 1;
        }

        int tell(int half, long v) {
            if (half < 0 || half > 1) {
                return 0;
            }
            told = withHalf(told, half, v);
            return 1;
        }

        int verify() {
            if (signedLeaf == NONE) {
                return NONE;
            }
            if (signedLeaf >= all()) {
                return 1;
            }
            String digits = digits(signedLeaf, told);
            List<Long> ends = new ArrayList<>(List.of(open, (long) signedLeaf));
            for (int chain = 0; chain < 35; chain++) {
                Hash place = parts.get(chain);
                for (int j = digits.charAt(chain) - 'A'; j < 15; j++) {
                    place = after(place, signedLeaf, chain, j);
                }
                ends.addAll(List.of(place.a(), place.b()));
            }
            Hash at = hashOf(3, ends);
            for (int level = 1, i = signedLeaf; level <= height; level++, i /= 2) {
                Hash beside = parts.get(34 + level);
                at = i % 2 == 0 ? over(level, i / 2, at, beside) : over(level, i / 2, beside, at);
            }
            return at.equals(told) ? 0 : 2;
        }

        long hash(int kind, int half) {
            return half == 0 || half == 1 ? hashOf(kind, message).half(half) : 0;
        }

        int count(int what) {
            int[] answers = {all(), made, used, message.size(), parts.size()};
            return what >= 0 && what < answers.length ? answers[what] : NONE;
        }

        private int all() {
            return (int) Math.pow(2, height);
        }

        private boolean hasPart(int k, int half) {
            return k >= 0 && k < parts.size() && (half == 0 || half == 1);
        }

        private static Hash withHalf(Hash hash, int half, long v) {
            return half == 0 ? new Hash(v, hash.b()) : new Hash(hash.a(), v);
        }

        private Hash place(int leaf, int chain, int j) {
            if (j == 0) {
                return hashOf(1, List.of(one, two, (long) leaf, (long) chain));
            }
            return after(place(leaf, chain, j - 1), leaf, chain, j - 1);
        }

        private Hash after(Hash place, int leaf, int chain, int j) {
            return hashOf(2, List.of(open, (long) leaf, (long) chain, (long) j, place.a(), place.b()));
        }

        private Hash nodeHash(int level, int i) {
            String name = level + "/" + i;
            if (!known.containsKey(name)) {
                known.put(name, level == 0 ? leafHash(i)
                        : over(level, i, nodeHash(level - 1, 2 * i), nodeHash(level - 1, 2 * i + 1)));
            }
            return known.get(name);
        }

        private Hash leafHash(int leaf) {
            List<Long> longs = new ArrayList<>(List.of(open, (long) leaf));
            for (int chain = 0; chain < 35; chain++) {
                Hash end = place(leaf, chain, 15);
                longs.addAll(List.of(end.a(), end.b()));
            }
            return hashOf(3, longs);
        }

        private Hash over(int level, int i, Hash left, Hash right) {
            return hashOf(4, List.of(open, (long) level, (long) i, left.a(), left.b(), right.a(), right.b()));
        }

        /** The digits as letters, A for 0: a text of hexadecimal digits, three more behind it. */
        private String digits(int leaf, Hash root) {
            List<Long> longs = new ArrayList<>(List.of(open, (long) leaf, root.a(), root.b()));
            longs.addAll(message);
            Hash digest = hashOf(5, longs);
            String hex = String.format("%016x%016x", digest.a(), digest.b());
            int lack = hex.chars().map(c -> 15 - Character.digit(c, 16)).sum();
            StringBuilder letters = new StringBuilder();
            (hex + String.format("%03x", lack)).chars()
                    .forEach(c -> letters.append((char) ('A' + Character.digit(c, 16))));
            return letters.toString();
        }

        private static Hash hashOf(int kind, List<Long> longs) {
            long a = kind;
            long b = longs.size();
            for (long x : longs) {
                a = mixed(a ^ x);
                b = mixed(b + a);
            }
            return new Hash(a, b);
        }

        private static long mixed(long x) {
            x ^= x >>> 30;
            x *= 0xBF58476D1CE4E5B9L;
            x ^= x >>> 27;
            x *= 0x94D049BB133111EBL;
            x ^= x >>> 31;
            return x;
        }
    }
}
