import java.io.ByteArrayOutputStream;
import java.util.Arrays;

/**
 * The document once more, word by word and with no thought of speed or room,
 * to hold HashSigner's answers against. HASH 0 is the Java library's.
 */
final class Model {
    private int form = 0;
    private int n = 4;
    private int height = 1;
    private int layers = 1;
    private int a = 1;
    private int k = 1;
    private final byte[][] seeds = new byte[3][16];
    private byte[] tape = {};
    private byte[] kept = {};
    private byte[] keyRoot;
    private byte[] signature = {};
    private byte[] led = {};
    private int[] found = {};

    int feed(int a, int b, int c, int d, int e) {
        if (tape.length > 580) {
            return -4;
        }
        tape = join(tape, z(a & 0xffffffffL, 4), z(b & 0xffffffffL, 4), z(c & 0xffffffffL, 4),
            z(d & 0xffffffffL, 4), z(e & 0xffffffffL, 4));
        return tape.length;
    }

    int trim(int to) {
        if (to < 0 || to > tape.length) {
            return -2;
        }
        tape = Arrays.copyOf(tape, to);
        return to;
    }

    int hash(int which) {
        if (which < 0 || which > 1) {
            return -2;
        }
        kept = which == 0 ? Help.sha256(tape) : hashOne(tape);
        return 32;
    }

    int hashByte(int i) {
        return byteOf(kept, i);
    }

    int shape(int form, int n, int height, int layers, int a, int k) {
        boolean right = form >= 0 && form <= 1 && n >= 4 && n <= 16 && n % 4 == 0 && height >= 1 && height <= 2
            && layers >= 1 && layers <= 2 && a >= 1 && a <= 4 && k >= 1 && k <= 6;
        if (!right) {
            return -2;
        }
        this.form = form;
        this.n = n;
        this.height = height;
        this.layers = layers;
        this.a = a;
        this.k = k;
        keyRoot = null;
        signature = new byte[0];
        led = new byte[0];
        found = new int[0];
        return wanted();
    }

    int seed(int which, long high, long low) {
        if (which < 0 || which > 2) {
            return -2;
        }
        seeds[which] = join(z(high, 8), z(low, 8));
        keyRoot = null;
        return 1;
    }

    int key() {
        keyRoot = node(layers - 1, 0, height, 0);
        return 1;
    }

    int root(int i) {
        return keyRoot == null ? -9 : byteOf(keyRoot, i);
    }

    int sign() {
        return keyRoot == null ? -3 : signRow(mixed(meant(2)));
    }

    int signWith(long high, long low) {
        return keyRoot == null ? -3 : signRow(mixedOf(high, low));
    }

    int signed(int i) {
        return byteOf(signature, i);
    }

    int alter(int i, int b) {
        if (i < 0 || i >= signature.length || b < 0 || b > 255) {
            return -2;
        }
        int was = signature[i] & 255;
        signature[i] = (byte) b;
        return was;
    }

    int cut(int to) {
        if (to < 0 || to > signature.length) {
            return -2;
        }
        int gone = signature.length - to;
        signature = Arrays.copyOf(signature, to);
        return gone;
    }

    int verify() {
        if (keyRoot == null) {
            return -3;
        }
        if (signature.length != wanted()) {
            return 0;
        }
        found = numbers(points(part(0)));
        led = leadAll();
        return Arrays.equals(led, keyRoot) ? 1 : 0;
    }

    int ledTo(int i) {
        return byteOf(led, i);
    }

    int index(int what) {
        return what < 0 || what >= found.length ? -9 : found[what];
    }

    int leaf(int layer, int tree, int u, int i) {
        int most = 1 << height;
        boolean treeRight = tree >= 0 && (layer == layers - 1 ? tree == 0 : tree < most);
        if (layer < 0 || layer >= layers || !treeRight || u < 0 || u >= most) {
            return -2;
        }
        return i < 0 || i >= n ? -9 : byteOf(node(layer, tree, 0, u), i);
    }

    int told(int what) {
        int[] all = {tape.length, signature.length, wanted(), len(), n, keyRoot == null ? 0 : 1};
        return what < 0 || what > 5 ? -2 : all[what];
    }

    void tapeIs(byte[] text) {
        tape = text;
    }

    byte[] mixedOf(long high, long low) {
        return mixed(Arrays.copyOf(join(z(high, 8), z(low, 8)), n));
    }

    /** What index() tells of an R, with a space between each two. */
    String numbersOf(byte[] r) {
        StringBuilder all = new StringBuilder();
        for (int number : numbers(points(r))) {
            all.append(all.length() == 0 ? "" : " ").append(number);
        }
        return all.toString();
    }

    private static int byteOf(byte[] row, int i) {
        return i < 0 || i >= row.length ? -9 : row[i] & 255;
    }

    private static byte[] join(byte[]... rows) {
        ByteArrayOutputStream all = new ByteArrayOutputStream();
        for (byte[] row : rows) {
            all.writeBytes(row);
        }
        return all.toByteArray();
    }

    private static byte[] z(long x, int bytes) {
        byte[] row = new byte[bytes];
        for (int i = bytes - 1; i >= 0; i--) {
            row[i] = (byte) x;
            x >>>= 8;
        }
        return row;
    }

    static byte[] hashOne(byte[] row) {
        byte[] padded = Arrays.copyOf(join(row, new byte[] {31}), (row.length / 136 + 1) * 136);
        padded[padded.length - 1] ^= (byte) 128;
        long[][] A = new long[5][5];
        for (int at = 0; at < padded.length; at += 136) {
            for (int i = 0; i < 136; i++) {
                A[i / 8 % 5][i / 40] ^= (padded[at + i] & 255L) << (i % 8 * 8);
            }
            rounds(A);
        }
        byte[] out = new byte[32];
        for (int i = 0; i < 32; i++) {
            out[i] = (byte) (A[i / 8][0] >>> (i % 8 * 8));
        }
        return out;
    }

    private static void rounds(long[][] A) {
        int bits = 1;
        for (int round = 0; round < 24; round++) {
            long[] C = new long[5];
            for (int x = 0; x < 5; x++) {
                C[x] = A[x][0] ^ A[x][1] ^ A[x][2] ^ A[x][3] ^ A[x][4];
            }
            for (int x = 0; x < 5; x++) {
                for (int y = 0; y < 5; y++) {
                    A[x][y] ^= C[(x + 4) % 5] ^ Long.rotateLeft(C[(x + 1) % 5], 1);
                }
            }
            long[][] B = new long[5][5];
            B[0][0] = A[0][0];
            int x = 1;
            int y = 0;
            for (int t = 0; t < 24; t++) {
                B[y][(2 * x + 3 * y) % 5] = Long.rotateLeft(A[x][y], (t + 1) * (t + 2) / 2 % 64);
                int next = (2 * x + 3 * y) % 5;
                x = y;
                y = next;
            }
            for (x = 0; x < 5; x++) {
                for (y = 0; y < 5; y++) {
                    A[x][y] = B[x][y] ^ ~B[(x + 1) % 5][y] & B[(x + 2) % 5][y];
                }
            }
            for (int j = 0; j <= 6; j++) {
                A[0][0] ^= (bits & 1L) << ((1 << j) - 1);
                bits = bits * 2 >= 256 ? bits * 2 ^ 369 : bits * 2;
            }
        }
    }

    private int len() {
        return n < 12 ? 2 * n + 2 : 2 * n + 3;
    }

    private int wanted() {
        return n * (1 + k * (1 + a) + layers * (len() + height));
    }

    private byte[] meant(int which) {
        return Arrays.copyOf(seeds[which], n);
    }

    private byte[] hashed(byte[]... rows) {
        return form == 0 ? Help.sha256(join(rows)) : hashOne(join(rows));
    }

    private static int[] at(int... place) {
        return place;
    }

    /** The place: layer, tree, kind, u, v, w. */
    private byte[] t(int[] p, byte[]... rows) {
        byte[] uvw = join(z(p[3], 4), z(p[4], 4), z(p[5], 4));
        byte[] all = form == 0
            ? hashed(meant(2), new byte[64 - n], z(p[0], 1), z(p[1], 8), z(p[2], 1), uvw, join(rows))
            : hashed(meant(2), z(p[0], 4), z(p[1], 12), z(p[2], 4), uvw, join(rows));
        return Arrays.copyOf(all, n);
    }

    private byte[] secret(int... place) {
        return t(place, meant(0));
    }

    private byte[] chain(byte[] row, int from, int steps, int layer, int tree, int u, int v) {
        return steps == 0 ? row
            : chain(t(at(layer, tree, 0, u, v, from), row), from + 1, steps - 1, layer, tree, u, v);
    }

    private int[] digits(byte[] row) {
        int[] digits = new int[len()];
        int sum = 0;
        for (int i = 0; i < n; i++) {
            digits[2 * i] = (row[i] & 255) / 16;
            digits[2 * i + 1] = (row[i] & 255) % 16;
            sum += 30 - digits[2 * i] - digits[2 * i + 1];
        }
        digits[len() - 1] = sum % 16;
        digits[len() - 2] = sum / 16 % 16;
        if (n >= 12) {
            digits[len() - 3] = sum / 256;
        }
        return digits;
    }

    private byte[] node(int layer, int tree, int z, int i) {
        if (z > 0) {
            return t(at(layer, tree, 2, 0, z, i), node(layer, tree, z - 1, 2 * i), node(layer, tree, z - 1, 2 * i + 1));
        }
        byte[][] ends = new byte[len()][];
        for (int v = 0; v < len(); v++) {
            ends[v] = chain(secret(layer, tree, 5, i, v, 0), 0, 15, layer, tree, i, v);
        }
        return t(at(layer, tree, 1, i, 0, 0), ends);
    }

    private byte[] one(byte[] row, int layer, int tree, int u) {
        byte[] all = {};
        for (int v = 0; v < len(); v++) {
            all = join(all, chain(secret(layer, tree, 5, u, v, 0), 0, digits(row)[v], layer, tree, u, v));
        }
        for (int z = 0; z < height; z++) {
            all = join(all, node(layer, tree, z, u / (1 << z) ^ 1));
        }
        return all;
    }

    private byte[] fewNode(int tree, int u, int z, int j) {
        return z == 0 ? t(at(0, tree, 3, u, 0, j), secret(0, tree, 6, u, 0, j))
            : t(at(0, tree, 3, u, z, j), fewNode(tree, u, z - 1, 2 * j), fewNode(tree, u, z - 1, 2 * j + 1));
    }

    private byte[] fewRoot(int tree, int u) {
        byte[][] tops = new byte[k][];
        for (int i = 0; i < k; i++) {
            tops[i] = fewNode(tree, u, a, i);
        }
        return t(at(0, tree, 4, u, 0, 0), tops);
    }

    private byte[] mixed(byte[] rand) {
        if (form == 1) {
            return Arrays.copyOf(hashed(meant(1), rand, tape), n);
        }
        byte[] x = Arrays.copyOf(meant(1), 64);
        byte[] y = Arrays.copyOf(meant(1), 64);
        for (int i = 0; i < 64; i++) {
            x[i] ^= 92;
            y[i] ^= 54;
        }
        return Arrays.copyOf(hashed(x, hashed(y, rand, tape)), n);
    }

    private byte[] points(byte[] r) {
        byte[] first = hashed(r, meant(2), keyRoot, tape);
        return form == 1 ? first : hashed(r, meant(2), first, z(0, 4));
    }

    /** TREE, LEAF, CHOICES. */
    private int[] numbers(byte[] points) {
        int[] all = new int[2 + k];
        int at = (k * a + 7) / 8;
        StringBuilder bits = new StringBuilder();
        for (int i = 0; i < at; i++) {
            bits.append(Integer.toBinaryString(256 + (points[i] & 255)).substring(1));
        }
        for (int i = 0; i < k; i++) {
            all[2 + i] = Integer.parseInt(bits.substring(i * a, i * a + a), 2);
        }
        if (layers == 2) {
            all[0] = (points[at++] & 255) % (1 << height);
        }
        all[1] = (points[at] & 255) % (1 << height);
        return all;
    }

    private int signRow(byte[] r) {
        found = numbers(points(r));
        int tree = found[0];
        int u = found[1];
        byte[] all = r;
        for (int i = 0; i < k; i++) {
            int c = found[2 + i];
            all = join(all, secret(0, tree, 6, u, 0, i * (1 << a) + c));
            for (int z = 0; z < a; z++) {
                all = join(all, fewNode(tree, u, z, i * (1 << (a - z)) + (c / (1 << z) ^ 1)));
            }
        }
        all = join(all, one(fewRoot(tree, u), 0, tree, u));
        if (layers == 2) {
            all = join(all, one(node(0, tree, height, 0), 1, 0, tree));
        }
        signature = all;
        return signature.length;
    }

    private byte[] part(int i) {
        return Arrays.copyOfRange(signature, i * n, i * n + n);
    }

    private byte[] leadAll() {
        int tree = found[0];
        int u = found[1];
        byte[][] tops = new byte[k][];
        for (int i = 0; i < k; i++) {
            int c = found[2 + i];
            int at = 1 + i * (a + 1);
            byte[] x = t(at(0, tree, 3, u, 0, i * (1 << a) + c), part(at));
            for (int z = 0; z < a; z++) {
                int[] place = at(0, tree, 3, u, z + 1, i * (1 << (a - z - 1)) + c / (2 << z));
                x = c / (1 << z) % 2 == 0 ? t(place, x, part(at + 1 + z)) : t(place, part(at + 1 + z), x);
            }
            tops[i] = x;
        }
        int at = 1 + k * (a + 1);
        byte[] row = leadOne(t(at(0, tree, 4, u, 0, 0), tops), at, 0, tree, u);
        return layers == 1 ? row : leadOne(row, at + len() + height, 1, 0, tree);
    }

    private byte[] leadOne(byte[] row, int at, int layer, int tree, int u) {
        int[] digits = digits(row);
        byte[][] ends = new byte[len()][];
        for (int v = 0; v < len(); v++) {
            ends[v] = chain(part(at + v), digits[v], 15 - digits[v], layer, tree, u, v);
        }
        byte[] x = t(at(layer, tree, 1, u, 0, 0), ends);
        for (int z = 0; z < height; z++) {
            int[] place = at(layer, tree, 2, 0, z + 1, u / (2 << z));
            byte[] told = part(at + len() + z);
            x = u / (1 << z) % 2 == 0 ? t(place, x, told) : t(place, told, x);
        }
        return x;
    }
}
