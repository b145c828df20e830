import java.util.List;
import java.util.Set;

/** Promises 6 to 9 and 18: the shape, the seeds, the key, its root, the leaves. */
public final class KeyTest {

    private static final int[] SIZES = {4, 8, 12, 16};

    private final Due due = new Due();

    public static void main(String[] args) {
        KeyTest test = new KeyTest();
        test.shapeTellsTheSize();
        test.shapeOutside();
        test.shapeOutsideInSeveralNumbers();
        test.noKeyBehindShape();
        test.noSignatureBehindShape();
        test.seedOutsideWhich();
        test.noKeyBehindSeed();
        test.seedTakesTheKeyAlone();
        test.everySeedHasItsPart();
        test.everyByteOfASeedHasItsPlace();
        test.keyIsMade();
        test.keyAgain();
        test.keyLeavesTheRest();
        test.rootNone();
        test.rootWithoutKey();
        test.leafOutsideLayer();
        test.leafOutsideTree();
        test.leafOutsideU();
        test.leafNone();
        test.leafOutsideAheadOfNone();
        test.leafNeedsNoKey();
        test.leavesBehindSigning();
        test.leavesFollowShapeAndSeeds();
        test.rootOfLeaves();
        test.due.end();
    }

    private static HashSigner signedOne() {
        HashSigner x = new HashSigner();
        Help.shape(x, "1 8 2 2 3 2");
        Help.seeds(x, Help.SEEDS);
        x.key();
        x.sign();
        x.verify();
        return x;
    }

    /** Promise 6: "how many bytes a SIGNATURE has". */
    private void shapeTellsTheSize() {
        for (int n : SIZES) {
            HashSigner x = new HashSigner();
            int len = 2 * n + (n < 12 ? 2 : 3);
            for (int other = 0; other < 12; other++) {
                int height = 1 + other % 2;
                int layers = 1 + other / 2 % 2;
                int a = 1 + other % 4;
                int k = 1 + other % 6;
                int size = n * (1 + k * (a + 1) + layers * (len + height));
                due.is("shape of " + n + ", " + other, x.shape(other % 2, n, height, layers, a, k), size);
                due.is("told(2)", x.told(2), size);
                due.is("told(3)", x.told(3), len);
                due.is("told(4)", x.told(4), n);
                x.key();
                due.is("sign() of " + n + ", " + other, x.sign(), size);
                due.is("verify() of " + n + ", " + other, x.verify(), 1);
            }
        }
        due.is("the fewest bytes", new HashSigner().shape(0, 4, 1, 1, 1, 1), 56);
        due.is("the most bytes", new HashSigner().shape(0, 16, 2, 2, 4, 6), 1680);
    }

    /** Promise 6: "OUTSIDE": each of the six numbers by itself, the others being right. */
    private void shapeOutside() {
        int[][] ranges = {{0, 1}, {4, 16}, {1, 2}, {1, 2}, {1, 4}, {1, 6}};
        for (int place = 0; place < 6; place++) {
            HashSigner x = signedOne();
            Set<Integer> wrong = Help.outside(ranges[place][0], ranges[place][1]);
            if (place == 1) {
                wrong.addAll(List.of(5, 6, 7, 9, 10, 11, 13, 14, 15));
            }
            for (int number : wrong) {
                int[] six = {0, 16, 1, 1, 4, 6};
                six[place] = number;
                due.is("number " + place + " of shape is " + number, Help.shape(x, six), HashSigner.OUTSIDE);
            }
            due.is("refused shapes leave the KEY", x.told(5), 1);
            due.is("refused shapes leave THE SHAPE", x.told(2), 392);
            due.is("refused shapes leave THE SIGNATURE", x.told(1), 392);
            due.is("refused shapes leave it right", x.verify(), 1);
        }
    }

    private void shapeOutsideInSeveralNumbers() {
        HashSigner x = signedOne();
        String[] wrong = {"2 5 3 3 5 7", "-1 0 0 0 0 0", "0 4 1 1 0 0", "2 4 1 1 1 7", "4 0 1 1 1 1", "1 2 8 2 3 2"};
        for (String six : wrong) {
            due.is("shape " + six, Help.shape(x, six), HashSigner.OUTSIDE);
        }
        due.is("verify() behind these", x.verify(), 1);
    }

    private void hasNoKey(String name, HashSigner x) {
        due.is("told(5) " + name, x.told(5), 0);
        for (int i = 0; i < 17; i++) {
            due.is("root(" + i + ") " + name, x.root(i), HashSigner.NONE);
        }
        due.is("sign() " + name, x.sign(), HashSigner.STATE);
        due.is("signWith(1, 2) " + name, x.signWith(1, 2), HashSigner.STATE);
        due.is("verify() " + name, x.verify(), HashSigner.STATE);
    }

    /** Promise 6: "There is no KEY then", also behind the very numbers that THE SHAPE had. */
    private void noKeyBehindShape() {
        for (String six : new String[] {"1 8 2 2 3 2", "0 4 1 1 1 1", "0 8 2 2 3 2", "1 8 2 2 3 3"}) {
            HashSigner x = signedOne();
            Help.shape(x, six);
            hasNoKey("behind shape " + six, x);
        }
    }

    /** Promise 6: "There is no SIGNATURE then", also not when there is a KEY again. */
    private void noSignatureBehindShape() {
        for (String six : new String[] {"1 8 2 2 3 2", "0 4 1 1 1 1", "0 8 2 2 3 2", "1 8 2 2 3 3"}) {
            HashSigner x = signedOne();
            Help.shape(x, six);
            due.is("told(1) behind shape " + six, x.told(1), 0);
            due.is("signed(0) behind shape " + six, x.signed(0), HashSigner.NONE);
            due.is("cut(1) behind shape " + six, x.cut(1), HashSigner.OUTSIDE);
            due.is("cut(0) behind shape " + six, x.cut(0), 0);
            due.is("alter(0, 0) behind shape " + six, x.alter(0, 0), HashSigner.OUTSIDE);
            x.key();
            due.is("told(1) behind shape " + six + ", key()", x.told(1), 0);
            due.is("verify() behind shape " + six + ", key()", x.verify(), 0);
        }
    }

    /** Promise 7: "OUTSIDE: which is not 0 to 2". */
    private void seedOutsideWhich() {
        HashSigner x = signedOne();
        String root = Help.root(x);
        for (int which : Help.outside(0, 2)) {
            due.is("seed(" + which + ", ..)", x.seed(which, 1, 2), HashSigner.OUTSIDE);
        }
        due.is("refused seeds leave the KEY", Help.root(x), root);
        String signed = Help.hex(Help.signatureSlice(x, 0, 8));
        x.key();
        x.sign();
        due.is("refused seeds leave Help.SEEDS 0 and 2", Help.root(x), root);
        due.is("refused seeds leave SEED 1", Help.hex(Help.signatureSlice(x, 0, 8)), signed);
    }

    /** Promise 7: "There is no KEY then", also behind the very bytes that the SEED had. */
    private void noKeyBehindSeed() {
        for (int which = 0; which < 3; which++) {
            for (String bytes : new String[] {Help.SEEDS.split(" ")[which], "0".repeat(32)}) {
                HashSigner x = signedOne();
                due.is("seed(" + which + ", ..)", Help.seed(x, which, bytes), 1);
                hasNoKey("behind seed " + which, x);
            }
        }
    }

    private void seedTakesTheKeyAlone() {
        for (int which = 0; which < 3; which++) {
            HashSigner x = signedOne();
            String led = Help.led(x);
            String index = Help.index(x);
            String signed = Help.hex(Help.signatureSlice(x, 0, 392));
            x.seed(which, 7, 8);
            due.is("told(1) behind seed", x.told(1), 392);
            due.is("told(2) behind seed", x.told(2), 392);
            due.is("ledTo behind seed", Help.led(x), led);
            due.is("index behind seed", Help.index(x), index);
            due.is("signed(0) behind seed", Help.twoDigits(x.signed(0)), signed.substring(0, 2));
            due.is("signed(391) behind seed", Help.twoDigits(x.signed(391)), signed.substring(782));
        }
    }

    private void everySeedHasItsPart() {
        String root = Help.root(signedOne());
        for (int which = 0; which < 3; which++) {
            HashSigner x = signedOne();
            x.seed(which, 1, 2);
            x.key();
            due.is("another SEED " + which + ": the same ROOT", Help.root(x).equals(root) ? 1 : 0, which == 1 ? 1 : 0);
            due.is("another SEED " + which + ": verify()", x.verify(), which == 1 ? 1 : 0);
        }
    }

    /** Promise 7: "Z(high, 8) | Z(low, 8)", of numbers at their edges. */
    private void everyByteOfASeedHasItsPlace() {
        long[] numbers = {0, 1, -1, Long.MIN_VALUE, Long.MAX_VALUE, 0x0102030405060708L, 0xfffefdfcfbfaf9f8L, 1L << 32};
        for (int form = 0; form < 2; form++) {
            for (int i = 0; i < numbers.length; i++) {
                long high = numbers[i];
                long low = numbers[(i + 3) % numbers.length];
                HashSigner x = new HashSigner();
                Model m = new Model();
                x.shape(form, 16, 1, 1, 1, 1);
                m.shape(form, 16, 1, 1, 1, 1);
                for (int which = 0; which < 3; which++) {
                    due.is("seed(" + which + ", ..)", x.seed(which, high + which, low), 1);
                    m.seed(which, high + which, low);
                }
                x.key();
                x.sign();
                m.key();
                m.sign();
                due.is("the ROOT of seeds " + high + ", " + low, Help.root(x), Help.row(m::root));
                for (int at = 0; at < 64; at++) {
                    due.is("signed(" + at + ") of seeds " + high + ", " + low, x.signed(at), m.signed(at));
                }
            }
        }
    }

    /** Promise 8: "THE KEY's ROOT is made: 1", of layer layers - 1. */
    private void keyIsMade() {
        for (String six : new String[] {"0 12 2 2 1 1", "1 12 2 1 1 1", "0 4 1 2 1 1", "1 16 1 1 1 1"}) {
            HashSigner x = new HashSigner();
            Model m = new Model();
            int[] s = Help.numbers(six);
            Help.shape(x, s);
            m.shape(s[0], s[1], s[2], s[3], s[4], s[5]);
            due.is("told(5) ahead of key(), " + six, x.told(5), 0);
            due.is("key(), " + six, x.key(), 1);
            due.is("told(5) behind key(), " + six, x.told(5), 1);
            m.key();
            due.is("the ROOT, " + six, Help.root(x), Help.row(m::root));
        }
    }

    /** Promise 8: a KEY that is there is made again: from Help.SEEDS of now, the same from the same. */
    private void keyAgain() {
        HashSigner x = signedOne();
        String root = Help.root(x);
        due.is("key() again", x.key(), 1);
        due.is("the same ROOT again", Help.root(x), root);
        x.seed(0, 0, 0);
        due.is("key() behind seed", x.key(), 1);
        due.is("another ROOT", Help.root(x).equals(root) ? 1 : 0, 0);
        Help.seed(x, 0, Help.SEEDS.split(" ")[0]);
        due.is("key() behind the SEED of before", x.key(), 1);
        due.is("the ROOT of before", Help.root(x), root);
    }

    private void keyLeavesTheRest() {
        HashSigner x = signedOne();
        x.seed(0, 3, 3);
        String led = Help.led(x);
        String index = Help.index(x);
        int last = x.signed(391);
        x.key();
        due.is("key() leaves THE SIGNATURE's bytes", x.told(1), 392);
        due.is("key() leaves THE SIGNATURE", x.signed(391), last);
        due.is("key() leaves ledTo", Help.led(x), led);
        due.is("key() leaves index", Help.index(x), index);
        due.is("key() leaves THE TAPE", x.told(0), 0);
    }

    /** Promise 9: "NONE: there is none such": byte n, also behind a KEY that had it. */
    private void rootNone() {
        for (int n : SIZES) {
            HashSigner x = new HashSigner();
            Help.shape(x, "0 16 1 1 1 1");
            x.key();
            x.shape(0, n, 1, 1, 1, 1);
            x.key();
            for (int i : Help.outside(0, n - 1)) {
                due.is("root(" + i + ") of n " + n, x.root(i), HashSigner.NONE);
            }
            for (int i = n; i < 20; i++) {
                due.is("root(" + i + ") of n " + n, x.root(i), HashSigner.NONE);
            }
            for (int i = 0; i < n; i++) {
                due.is("root(" + i + ") of n " + n + " is a byte", x.root(i) >= 0 && x.root(i) <= 255 ? 1 : 0, 1);
            }
        }
    }

    /** Promise 9: "NONE: no KEY". */
    private void rootWithoutKey() {
        HashSigner x = new HashSigner();
        for (int i = -1; i < 17; i++) {
            due.is("root(" + i + ") of a new object", x.root(i), HashSigner.NONE);
        }
        x.key();
        x.seed(1, 0, 0);
        for (int i = -1; i < 17; i++) {
            due.is("root(" + i + ") behind seed", x.root(i), HashSigner.NONE);
        }
    }

    private void leafIs(HashSigner x, int layer, int tree, int u, boolean right) {
        String name = "leaf(" + layer + ", " + tree + ", " + u + ", 0)";
        int got = x.leaf(layer, tree, u, 0);
        due.is(name, got, right ? got & 255 : HashSigner.OUTSIDE);
    }

    private static HashSigner shaped(int height, int layers) {
        HashSigner x = new HashSigner();
        x.shape(1, 8, height, layers, 1, 1);
        return x;
    }

    /** Promise 18: "OUTSIDE: layer". */
    private void leafOutsideLayer() {
        for (int layers = 1; layers <= 2; layers++) {
            HashSigner x = shaped(2, layers);
            for (int layer = 0; layer < layers; layer++) {
                leafIs(x, layer, 0, 0, true);
            }
            for (int layer : Help.outside(0, layers - 1)) {
                leafIs(x, layer, 0, 0, false);
            }
        }
    }

    /** Promise 18: "tree (0 in the last layer, else below 2^height)". */
    private void leafOutsideTree() {
        for (int height = 1; height <= 2; height++) {
            for (int layers = 1; layers <= 2; layers++) {
                for (int layer = 0; layer < layers; layer++) {
                    HashSigner x = shaped(height, layers);
                    int most = layer == layers - 1 ? 0 : (1 << height) - 1;
                    for (int tree = 0; tree <= most; tree++) {
                        leafIs(x, layer, tree, 0, true);
                    }
                    for (int tree : Help.outside(0, most)) {
                        leafIs(x, layer, tree, 0, false);
                    }
                }
            }
        }
    }

    /** Promise 18: "u below 2^height". */
    private void leafOutsideU() {
        for (int height = 1; height <= 2; height++) {
            for (int layer = 0; layer < 2; layer++) {
                HashSigner x = shaped(height, 2);
                int most = (1 << height) - 1;
                for (int u = 0; u <= most; u++) {
                    leafIs(x, layer, 0, u, true);
                }
                for (int u : Help.outside(0, most)) {
                    leafIs(x, layer, 0, u, false);
                }
            }
        }
    }

    /** Promise 18: "NONE: i is not below n", also where a LEAF of more bytes was there; there is none below 0. */
    private void leafNone() {
        for (int n : SIZES) {
            HashSigner x = new HashSigner();
            x.shape(0, 16, 1, 2, 1, 1);
            x.leaf(0, 1, 1, 15);
            x.shape(0, n, 1, 2, 1, 1);
            for (int i = 0; i < n; i++) {
                int got = x.leaf(0, 1, 1, i);
                due.is("leaf(0, 1, 1, " + i + ") of n " + n, got, got & 255);
            }
            for (int i = n; i < 20; i++) {
                due.is("leaf(0, 1, 1, " + i + ") of n " + n, x.leaf(0, 1, 1, i), HashSigner.NONE);
            }
            for (int i : Help.outside(0, n - 1)) {
                due.is("leaf(0, 1, 1, " + i + ") of n " + n, x.leaf(0, 1, 1, i), HashSigner.NONE);
            }
        }
    }

    private void leafOutsideAheadOfNone() {
        HashSigner x = shaped(2, 2);
        int[][] outside = {{-1, 0, 0}, {2, 0, 0}, {0, -1, 0}, {0, 4, 0}, {1, 1, 0}, {0, 0, -1}, {0, 0, 4}, {2, 4, 4}};
        for (int[] p : outside) {
            for (int i : new int[] {-1, 8, Integer.MAX_VALUE}) {
                due.is("leaf(" + p[0] + ", " + p[1] + ", " + p[2] + ", " + i + ")", x.leaf(p[0], p[1], p[2], i),
                    HashSigner.OUTSIDE);
            }
        }
    }

    private void leafNeedsNoKey() {
        HashSigner x = new HashSigner();
        String leaf = Help.leaf(x, 0, 0, 1);
        due.is("how many bytes a LEAF has", leaf.length(), 8);
        due.is("leaf makes no KEY", x.told(5), 0);
        x.key();
        x.sign();
        due.is("a LEAF behind key(), sign()", Help.leaf(x, 0, 0, 1), leaf);
    }

    /** Promise 18: what key() and sign() make of LEAVES changes none of them, in no tree. */
    private void leavesBehindSigning() {
        HashSigner fresh = shaped(2, 2);
        HashSigner x = shaped(2, 2);
        x.key();
        for (int i = 0; i < 40; i++) {
            x.signWith(i, i);
        }
        for (int layer = 0; layer < 2; layer++) {
            for (int tree = 0; tree < (layer == 1 ? 1 : 4); tree++) {
                for (int u = 0; u < 4; u++) {
                    due.is("leaf " + layer + " " + tree + " " + u + " behind signing", Help.leaf(x, layer, tree, u),
                        Help.leaf(fresh, layer, tree, u));
                }
            }
        }
    }

    private void leavesFollowShapeAndSeeds() {
        for (int layer = 0; layer < 2; layer++) {
            for (int tree = 0; tree < (layer == 1 ? 1 : 4); tree++) {
                for (int u = 0; u < 4; u++) {
                    leafFollows(layer, tree, u);
                }
            }
        }
    }

    private void leafFollows(int layer, int tree, int u) {
        HashSigner x = new HashSigner();
        Model m = new Model();
        String name = "leaf " + layer + " " + tree + " " + u;
        x.shape(0, 8, 2, 2, 1, 1);
        m.shape(0, 8, 2, 2, 1, 1);
        sameLeaf(name, x, m, layer, tree, u);
        for (int which = 0; which < 3; which++) {
            x.seed(which, 3, -4);
            m.seed(which, 3, -4);
            sameLeaf(name + " behind seed " + which, x, m, layer, tree, u);
        }
        x.shape(1, 12, 2, 2, 1, 1);
        m.shape(1, 12, 2, 2, 1, 1);
        sameLeaf(name + " behind shape", x, m, layer, tree, u);
    }

    private void sameLeaf(String name, HashSigner x, Model m, int layer, int tree, int u) {
        for (int i = 0; i < 13; i++) {
            due.is(name + ", byte " + i, x.leaf(layer, tree, u, i), m.leaf(layer, tree, u, i));
        }
    }

    /** Of form 0 and height 1, the ROOT is one T over two LEAVES, which the tape can hold. */
    private void rootOfLeaves() {
        HashSigner x = new HashSigner();
        x.key();
        byte[] row = new byte[64 + 22 + 8];
        row[73] = 2;
        row[81] = 1;
        for (int i = 0; i < 4; i++) {
            row[86 + i] = (byte) x.leaf(0, 0, 0, i);
            row[90 + i] = (byte) x.leaf(0, 0, 1, i);
        }
        due.is("the ROOT over two LEAVES", Help.root(x), Help.hex(Help.sha256(row)).substring(0, 8));
    }
}
