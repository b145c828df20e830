/** Promises 6 to 9 and 18: the shape, the seeds, the key, its root, the leaves. */
public final class KeyTest {
    private static final String SEEDS =
        "00112233445566778899aabbccddeeff 0f1e2d3c4b5a69788796a5b4c3d2e1f0 fedcba98765432100123456789abcdef";

    private final Due due = new Due();

    public static void main(String[] args) {
        KeyTest test = new KeyTest();
        test.sizes();
        test.shapeRefuses();
        test.shapeTakesKeyAndSignature();
        test.seedRefuses();
        test.seedTakesTheKeyAlone();
        test.seedKeepsAllItsBytes();
        test.everySeedHasItsPart();
        test.keyAndRoot();
        test.leafRefuses();
        test.leafNeedsNoKey();
        test.leavesFollowShapeAndSeeds();
        test.rootOfLeaves();
        test.due.end();
    }

    private static HashSigner signedOne() {
        HashSigner x = new HashSigner();
        Help.shape(x, "1 8 2 2 3 2");
        Help.seeds(x, SEEDS);
        x.key();
        x.sign();
        x.verify();
        return x;
    }

    private void sizes() {
        for (int n = 4; n <= 16; n += 4) {
            HashSigner x = new HashSigner();
            int len = 2 * n + (n < 12 ? 2 : 3);
            for (int other = 0; other < 12; other++) {
                int height = 1 + other % 2;
                int layers = 1 + other / 2 % 2;
                int a = 1 + other % 4;
                int k = 1 + other % 6;
                int size = n * (1 + k * (a + 1) + layers * (len + height));
                due.is("shape of " + n + ", " + other, x.shape(other % 2, n, height, layers, a, k), size);
                due.is("told(2)", x.told(2), size);
                due.is("told(3)", x.told(3), len);
                due.is("told(4)", x.told(4), n);
                x.key();
                due.is("sign() of " + n + ", " + other, x.sign(), size);
                due.is("verify() of " + n + ", " + other, x.verify(), 1);
            }
        }
        due.is("the most bytes", new HashSigner().shape(0, 16, 2, 2, 4, 6), 1680);
    }

    private void shapeRefuses() {
        HashSigner x = signedOne();
        String[] wrong = {
            "-1 8 2 2 3 2", "2 8 2 2 3 2", "1 0 2 2 3 2", "1 3 2 2 3 2", "1 5 2 2 3 2", "1 10 2 2 3 2", "1 20 2 2 3 2",
            "1 -4 2 2 3 2", "1 8 0 2 3 2", "1 8 3 2 3 2", "1 8 2 0 3 2", "1 8 2 3 3 2", "1 8 2 2 0 2", "1 8 2 2 5 2",
            "1 8 2 2 3 0", "1 8 2 2 3 7", "-2147483648 8 2 2 3 2", "1 2147483647 2 2 3 2", "1 8 -2147483648 2 3 2",
            "1 8 2 2147483647 3 2", "1 8 2 2 -2147483648 2", "1 8 2 2 3 2147483647",
        };
        for (String six : wrong) {
            due.is("shape " + six, Help.shape(x, six), HashSigner.OUTSIDE);
        }
        due.is("refused shapes leave the KEY", x.told(5), 1);
        due.is("refused shapes leave THE SIGNATURE", x.told(1), x.told(2));
        due.is("refused shapes leave it right", x.verify(), 1);
    }

    private void shapeTakesKeyAndSignature() {
        for (String six : new String[] {"1 8 2 2 3 2", "0 4 1 1 1 1"}) {
            HashSigner x = signedOne();
            Help.shape(x, six);
            due.is("told(5) behind shape", x.told(5), 0);
            due.is("told(1) behind shape", x.told(1), 0);
            due.is("root(0) behind shape", x.root(0), HashSigner.NONE);
            due.is("signed(0) behind shape", x.signed(0), HashSigner.NONE);
            due.is("ledTo(0) behind shape", x.ledTo(0), HashSigner.NONE);
            due.is("index(0) behind shape", x.index(0), HashSigner.NONE);
            due.is("sign() behind shape", x.sign(), HashSigner.STATE);
            due.is("verify() behind shape", x.verify(), HashSigner.STATE);
            due.is("cut(0) behind shape", x.cut(0), 0);
            due.is("alter(0, 0) behind shape", x.alter(0, 0), HashSigner.OUTSIDE);
        }
    }

    private void seedRefuses() {
        HashSigner x = signedOne();
        String root = Help.root(x);
        for (int which : new int[] {-1, 3, Integer.MIN_VALUE, Integer.MAX_VALUE}) {
            due.is("seed(" + which + ", ..)", x.seed(which, 1, 2), HashSigner.OUTSIDE);
        }
        due.is("refused seeds leave the KEY", Help.root(x), root);
        x.key();
        due.is("refused seeds leave the SEEDS", Help.root(x), root);
    }

    private void seedTakesTheKeyAlone() {
        for (int which = 0; which < 3; which++) {
            HashSigner x = signedOne();
            String led = Help.led(x);
            String index = Help.index(x);
            int size = x.told(1);
            due.is("seed(" + which + ", ..)", x.seed(which, 7, 8), 1);
            due.is("told(5) behind seed", x.told(5), 0);
            due.is("root(0) behind seed", x.root(0), HashSigner.NONE);
            due.is("sign() behind seed", x.sign(), HashSigner.STATE);
            due.is("signWith() behind seed", x.signWith(1, 2), HashSigner.STATE);
            due.is("verify() behind seed", x.verify(), HashSigner.STATE);
            due.is("told(1) behind seed", x.told(1), size);
            due.is("ledTo behind seed", Help.led(x), led);
            due.is("index behind seed", Help.index(x), index);
        }
    }

    /** Bytes that a small n does not mean are there again when n grows. */
    private void seedKeepsAllItsBytes() {
        HashSigner early = new HashSigner();
        Help.seeds(early, SEEDS);
        early.key();
        Help.shape(early, "0 16 1 1 1 1");
        early.key();
        HashSigner late = new HashSigner();
        Help.shape(late, "0 16 1 1 1 1");
        Help.seeds(late, SEEDS);
        late.key();
        due.is("seeds told ahead of the shape", Help.root(early), Help.root(late));
        HashSigner small = new HashSigner();
        Help.seeds(small, SEEDS);
        small.key();
        String root = Help.root(small);
        small.seed(0, 0x0011223300000000L, -1);
        small.seed(2, 0xfedcba9800000000L, -1);
        small.key();
        due.is("bytes behind the first n are not meant", Help.root(small), root);
        small.seed(0, 0x0011223200000000L, -1);
        small.key();
        due.is("byte n - 1 is meant", Help.root(small).equals(root) ? 1 : 0, 0);
    }

    private void everySeedHasItsPart() {
        String root = Help.root(signedOne());
        for (int which = 0; which < 3; which++) {
            HashSigner x = signedOne();
            x.seed(which, 1, 2);
            x.key();
            due.is("another SEED " + which + ": the same ROOT", Help.root(x).equals(root) ? 1 : 0, which == 1 ? 1 : 0);
            due.is("another SEED " + which + ": verify()", x.verify(), which == 1 ? 1 : 0);
        }
    }

    private void keyAndRoot() {
        HashSigner x = new HashSigner();
        Help.shape(x, "0 12 2 2 1 1");
        Help.seeds(x, SEEDS);
        due.is("root(0) ahead of key()", x.root(0), HashSigner.NONE);
        due.is("told(5) ahead of key()", x.told(5), 0);
        due.is("key()", x.key(), 1);
        due.is("told(5) behind key()", x.told(5), 1);
        due.is("how many bytes the ROOT has", Help.root(x).length(), 24);
        for (int i : new int[] {-1, 12, 15, 16, Integer.MIN_VALUE, Integer.MAX_VALUE}) {
            due.is("root(" + i + ")", x.root(i), HashSigner.NONE);
        }
        String root = Help.root(x);
        x.sign();
        due.is("key() again", x.key(), 1);
        due.is("the same ROOT again", Help.root(x), root);
        due.is("key() leaves THE SIGNATURE", x.told(1), x.told(2));
    }

    private void leafRefuses() {
        HashSigner two = new HashSigner();
        Help.shape(two, "0 4 2 2 1 1");
        int[][] outside = {
            {-1, 0, 0}, {2, 0, 0}, {0, -1, 0}, {0, 4, 0}, {1, 1, 0}, {1, -1, 0}, {0, 0, -1}, {0, 0, 4}, {1, 0, 4},
            {Integer.MIN_VALUE, 0, 0}, {Integer.MAX_VALUE, 0, 0}, {0, Integer.MAX_VALUE, 0}, {0, 0, Integer.MAX_VALUE},
            {0, Integer.MIN_VALUE, 0}, {0, 0, Integer.MIN_VALUE},
        };
        for (int[] p : outside) {
            String name = "leaf(" + p[0] + ", " + p[1] + ", " + p[2] + ", ";
            due.is(name + "0)", two.leaf(p[0], p[1], p[2], 0), HashSigner.OUTSIDE);
            due.is(name + "9)", two.leaf(p[0], p[1], p[2], 9), HashSigner.OUTSIDE);
        }
        for (int i : new int[] {4, 5, -1, Integer.MIN_VALUE, Integer.MAX_VALUE}) {
            due.is("leaf(0, 3, 3, " + i + ")", two.leaf(0, 3, 3, i), HashSigner.NONE);
        }
        HashSigner low = new HashSigner();
        Help.shape(low, "0 4 1 2 1 1");
        due.is("height 1: leaf(0, 2, 0, 0)", low.leaf(0, 2, 0, 0), HashSigner.OUTSIDE);
        due.is("height 1: leaf(0, 0, 2, 0)", low.leaf(0, 0, 2, 0), HashSigner.OUTSIDE);
        due.is("height 1: leaf(0, 1, 1, 4)", low.leaf(0, 1, 1, 4), HashSigner.NONE);
        HashSigner one = new HashSigner();
        due.is("one layer: leaf(0, 1, 0, 0)", one.leaf(0, 1, 0, 0), HashSigner.OUTSIDE);
        due.is("one layer: leaf(1, 0, 0, 0)", one.leaf(1, 0, 0, 0), HashSigner.OUTSIDE);
    }

    private void leafNeedsNoKey() {
        HashSigner x = new HashSigner();
        String leaf = Help.leaf(x, 0, 0, 1);
        due.is("how many bytes a LEAF has", leaf.length(), 8);
        due.is("leaf makes no KEY", x.told(5), 0);
        x.key();
        x.sign();
        due.is("a LEAF behind key(), sign()", Help.leaf(x, 0, 0, 1), leaf);
    }

    private void leavesFollowShapeAndSeeds() {
        for (int layer = 0; layer < 2; layer++) {
            for (int tree = 0; tree < (layer == 1 ? 1 : 4); tree++) {
                for (int u = 0; u < 4; u++) {
                    leafFollows(layer, tree, u);
                }
            }
        }
    }

    private void leafFollows(int layer, int tree, int u) {
        HashSigner x = new HashSigner();
        Model m = new Model();
        String name = "leaf " + layer + " " + tree + " " + u;
        x.shape(0, 8, 2, 2, 1, 1);
        m.shape(0, 8, 2, 2, 1, 1);
        sameLeaf(name, x, m, layer, tree, u);
        for (int which = 0; which < 3; which++) {
            x.seed(which, 3, -4);
            m.seed(which, 3, -4);
            sameLeaf(name + " behind seed " + which, x, m, layer, tree, u);
        }
        x.shape(1, 12, 2, 2, 1, 1);
        m.shape(1, 12, 2, 2, 1, 1);
        sameLeaf(name + " behind shape", x, m, layer, tree, u);
    }

    private void sameLeaf(String name, HashSigner x, Model m, int layer, int tree, int u) {
        for (int i = 0; i < 13; i++) {
            due.is(name + ", byte " + i, x.leaf(layer, tree, u, i), m.leaf(layer, tree, u, i));
        }
    }

    /** Of form 0 and height 1, the ROOT is one T over two LEAVES, which the tape can hold. */
    private void rootOfLeaves() {
        HashSigner x = new HashSigner();
        x.key();
        byte[] row = new byte[64 + 22 + 8];
        row[73] = 2;
        row[81] = 1;
        for (int i = 0; i < 4; i++) {
            row[86 + i] = (byte) x.leaf(0, 0, 0, i);
            row[90 + i] = (byte) x.leaf(0, 0, 1, i);
        }
        due.is("the ROOT over two LEAVES", Help.root(x), Help.hex(Help.sha256(row)).substring(0, 8));
    }
}
