/**
 * Signatures by hashes alone: chains of hashes that sign once, trees over them,
 * trees over few-time keys, and a signature of all that.
 *
 * The words in capitals (ROW, PLACE, LEAF, ..) are those of the document.
 */
public final class HashSigner {
    public static final int OUTSIDE = -2, STATE = -3, FULL = -4, NONE = -9;

    private static final int TAPE_ROOM = 600;
    private static final int FEED_SIZE = 20;
    private static final int HASH_SIZE = 32;
    private static final int SEED_SIZE = 16;
    private static final int SEEDS = 3;

    /** Where each SEED begins in the row that holds all three. */
    private static final int SECRET_SEED = 0, MESSAGE_SEED = SEED_SIZE, OPEN_SEED = 2 * SEED_SIZE;

    private static final int MOST_N = 16, MOST_LEN = 35, MOST_LAYERS = 2;
    private static final int MOST_HEIGHT = 2, MOST_A = 4, MOST_K = 6;
    private static final int MOST_SIZE =
        MOST_N * (1 + MOST_K * (MOST_A + 1) + MOST_LAYERS * (MOST_LEN + MOST_HEIGHT));

    /** Above the longest row that is hashed (64 + 16 + 600 bytes) with what either hash pads it to. */
    private static final int INPUT_ROOM = 768;

    private static final int CHAIN_KIND = 0, LEAF_KIND = 1, NODE_KIND = 2, FEW_KIND = 3;
    private static final int FEW_ROOT_KIND = 4, CHAIN_SECRET_KIND = 5, FEW_SECRET_KIND = 6;

    private final Row tape = new Row(TAPE_ROOM);
    private final Row keptHash = new Row(HASH_SIZE);
    private final Row seeds = new Row(SEEDS * SEED_SIZE);
    private final Row toldRow = new Row(SEED_SIZE);
    /** Empty while there is no KEY. */
    private final Row keyRoot = new Row(MOST_N);
    private final Row signature = new Row(MOST_SIZE);
    private final Row signedRow = new Row(MOST_N);
    private final Row ledRow = new Row(MOST_N);
    private final Shape theShape = new Shape();
    private final Hasher hasher = new Hasher(theShape, seeds);
    private final Chains chains = new Chains(theShape, hasher);
    private final Trees trees = new Trees(theShape, hasher, chains);
    private final FewTrees fewTrees = new FewTrees(theShape, hasher, trees);
    private final Points points = new Points(theShape, seeds, hasher);

    public HashSigner() {
        seeds.addNumber(0, SEEDS * SEED_SIZE);
    }

    // ---- 1 the tape, hashes

    public int feed(int a, int b, int c, int d, int e) {
        if (tape.length + FEED_SIZE > TAPE_ROOM) {
            return FULL;
        }
        tape.addNumber(a, 4);
        tape.addNumber(b, 4);
        tape.addNumber(c, 4);
        tape.addNumber(d, 4);
        tape.addNumber(e, 4);
        return tape.length;
    }

    public int trim(int n) {
        if (n < 0 || n > tape.length) {
            return OUTSIDE;
        }
        tape.length = n;
        return n;
    }

    public int hash(int form) {
        if (form != 0 && form != 1) {
            return OUTSIDE;
        }
        hasher.in.clear();
        hasher.in.addAll(tape);
        hasher.ofForm(form).digest(hasher.in, keptHash);
        return keptHash.length;
    }

    public int hashByte(int i) {
        return keptHash.at(i);
    }

    // ---- 2 keys

    public int shape(int form, int n, int height, int layers, int a, int k) {
        if (!Shape.fits(form, n, height, layers, a, k)) {
            return OUTSIDE;
        }
        theShape.become(form, n, height, layers, a, k);
        keyRoot.clear();
        signature.clear();
        ledRow.clear();
        points.found.clear();
        chains.forgetLeaves();
        return theShape.size();
    }

    public int seed(int which, long high, long low) {
        if (which < 0 || which >= SEEDS) {
            return OUTSIDE;
        }
        holdTold(high, low);
        seeds.lay(which * SEED_SIZE, toldRow, 0, SEED_SIZE);
        keyRoot.clear();
        chains.forgetLeaves();
        return 1;
    }

    public int key() {
        trees.gatherLeaves(theShape.layers - 1, 0);
        trees.climb();
        keyRoot.clear();
        keyRoot.add(trees.level, 0, theShape.n);
        return 1;
    }

    public int root(int i) {
        return keyRoot.at(i);
    }

    // ---- 3 signatures

    public int sign() {
        return hasKey() ? signFrom(seeds, OPEN_SEED) : STATE;
    }

    public int signWith(long high, long low) {
        if (!hasKey()) {
            return STATE;
        }
        holdTold(high, low);
        return signFrom(toldRow, 0);
    }

    public int signed(int i) {
        return signature.at(i);
    }

    public int alter(int i, int b) {
        int was = signature.at(i);
        if (was == NONE || b < 0 || b > 255) {
            return OUTSIDE;
        }
        signature.put(i, b);
        return was;
    }

    public int cut(int n) {
        if (n < 0 || n > signature.length) {
            return OUTSIDE;
        }
        int gone = signature.length - n;
        signature.length = n;
        return gone;
    }

    public int verify() {
        if (!hasKey()) {
            return STATE;
        }
        if (signature.length != theShape.size()) {
            return 0;
        }
        points.find(signature, keyRoot, tape);
        follow();
        return ledRow.sameAs(keyRoot) ? 1 : 0;
    }

    public int ledTo(int i) {
        return ledRow.at(i);
    }

    public int index(int what) {
        return points.found.at(what);
    }

    public int leaf(int layer, int tree, int u, int i) {
        if (!theShape.hasTree(layer, tree) || u < 0 || u >= theShape.leaves()) {
            return OUTSIDE;
        }
        if (i < 0 || i >= theShape.n) {
            return NONE;
        }
        chains.keepLeaf(layer, tree, u);
        return chains.leaves.at(Chains.leafStart(layer, tree, u) + i);
    }

    public int told(int what) {
        switch (what) {
            case 0:
                return tape.length;
            case 1:
                return signature.length;
            case 2:
                return theShape.size();
            case 3:
                return theShape.len();
            case 4:
                return theShape.n;
            case 5:
                return hasKey() ? 1 : 0;
            default:
                return OUTSIDE;
        }
    }

    private boolean hasKey() {
        return keyRoot.length > 0;
    }

    private void holdTold(long high, long low) {
        toldRow.clear();
        toldRow.addNumber(high, 8);
        toldRow.addNumber(low, 8);
    }

    private int signFrom(Row rand, int start) {
        signature.clear();
        points.mix(rand, start, tape, signature);
        points.find(signature, keyRoot, tape);
        int tree = points.treeNumber();
        int u = points.leafNumber();
        fewTrees.write(points, signature, signedRow);
        for (int layer = 0; layer < theShape.layers; layer++) {
            trees.gatherLeaves(layer, tree);
            chains.write(signedRow, u, signature);
            trees.writePath(NODE_KIND, 0, theShape.height, u, signature);
            signedRow.lay(0, trees.level, 0, theShape.n);
            u = tree;
            tree = 0;
        }
        return signature.length;
    }

    /** Leaves in ledRow what THE SIGNATURE, which has as many bytes as wanted, leads to. */
    private void follow() {
        int tree = points.treeNumber();
        int u = points.leafNumber();
        int at = theShape.n;
        fewTrees.lead(points, signature, at, ledRow);
        at += theShape.fewSize();
        for (int layer = 0; layer < theShape.layers; layer++) {
            hasher.moveTo(layer, tree);
            chains.lead(signature, at, u, ledRow);
            at += theShape.len() * theShape.n;
            trees.leadPath(NODE_KIND, 0, theShape.height, u, signature, at, ledRow);
            at += theShape.height * theShape.n;
            u = tree;
            tree = 0;
        }
    }

    /** Bytes in an array of fixed room, of which the first ones count. */
    private static final class Row {
        final byte[] bytes;
        int length;

        Row(int room) {
            bytes = new byte[Math.max(room, 0)];
        }

        void clear() {
            length = 0;
        }

        int at(int i) {
            return i < 0 || i >= length ? NONE : bytes[i] & 255;
        }

        void put(int i, int b) {
            if (i >= 0 && i < length) {
                bytes[i] = (byte) b;
            }
        }

        /** Z(x, count) comes behind the row; x is not negative where count is above 8. */
        void addNumber(long x, int count) {
            for (int i = count - 1; i >= 0 && length < bytes.length; i--) {
                // Java takes a shift modulo 64, which would bring low bytes round again.
                bytes[length] = (byte) (i < 8 ? x >>> (8 * i) : 0);
                length++;
            }
        }

        void addAll(Row from) {
            lay(length, from, 0, from.length);
        }

        void add(Row from, int start, int count) {
            lay(length, from, start, count);
        }

        /** A part of another row comes over what stands at a place, and behind the end if it is longer. */
        void lay(int at, Row from, int start, int count) {
            boolean fitsHere = at >= 0 && count >= 0 && at <= length && count <= bytes.length - at;
            if (fitsHere && start >= 0 && start <= from.length - count) {
                System.arraycopy(from.bytes, start, bytes, at, count);
                length = Math.max(length, at + count);
            }
        }

        boolean sameAs(Row other) {
            if (length != other.length) {
                return false;
            }
            for (int i = 0; i < length; i++) {
                if (at(i) != other.at(i)) {
                    return false;
                }
            }
            return true;
        }
    }

    /** One of the two forms of hash. */
    private abstract static class Hash {
        /** Pads the row in its own room, then leaves its 32 bytes in the other one. */
        abstract void digest(Row in, Row out);
    }

    private static final class HashZero extends Hash {
        private static final int BLOCK = 64;
        private static final int[] FIRST_SUMS = {
            0x6a09e667, 0xbb67ae85, 0x3c6ef372, 0xa54ff53a, 0x510e527f, 0x9b05688c, 0x1f83d9ab, 0x5be0cd19,
        };
        private static final int[] CUBE_ROOTS = {
            0x428a2f98, 0x71374491, 0xb5c0fbcf, 0xe9b5dba5, 0x3956c25b, 0x59f111f1, 0x923f82a4, 0xab1c5ed5,
            0xd807aa98, 0x12835b01, 0x243185be, 0x550c7dc3, 0x72be5d74, 0x80deb1fe, 0x9bdc06a7, 0xc19bf174,
            0xe49b69c1, 0xefbe4786, 0x0fc19dc6, 0x240ca1cc, 0x2de92c6f, 0x4a7484aa, 0x5cb0a9dc, 0x76f988da,
            0x983e5152, 0xa831c66d, 0xb00327c8, 0xbf597fc7, 0xc6e00bf3, 0xd5a79147, 0x06ca6351, 0x14292967,
            0x27b70a85, 0x2e1b2138, 0x4d2c6dfc, 0x53380d13, 0x650a7354, 0x766a0abb, 0x81c2c92e, 0x92722c85,
            0xa2bfe8a1, 0xa81a664b, 0xc24b8b70, 0xc76c51a3, 0xd192e819, 0xd6990624, 0xf40e3585, 0x106aa070,
            0x19a4c116, 0x1e376c08, 0x2748774c, 0x34b0bcb5, 0x391c0cb3, 0x4ed8aa4a, 0x5b9cca4f, 0x682e6ff3,
            0x748f82ee, 0x78a5636f, 0x84c87814, 0x8cc70208, 0x90befffa, 0xa4506ceb, 0xbef9a3f7, 0xc67178f2,
        };

        private final int[] sums = new int[8];
        private final int[] words = new int[64];

        void digest(Row in, Row out) {
            long bits = 8L * in.length;
            in.addNumber(128, 1);
            in.addNumber(0, (BLOCK + BLOCK - 8 - in.length % BLOCK) % BLOCK);
            in.addNumber(bits, 8);
            for (int i = 0; i < 8; i++) {
                sums[i] = FIRST_SUMS[i];
            }
            for (int at = 0; at + BLOCK <= in.length; at += BLOCK) {
                spread(in.bytes, at);
                stir();
            }
            out.clear();
            for (int i = 0; i < 8; i++) {
                out.addNumber(sums[i], 4);
            }
        }

        private void spread(byte[] bytes, int at) {
            for (int i = 0; i < 16; i++) {
                int from = at + 4 * i;
                words[i] = bytes[from] << 24 | (bytes[from + 1] & 255) << 16
                    | (bytes[from + 2] & 255) << 8 | bytes[from + 3] & 255;
            }
            for (int i = 16; i < 64; i++) {
                int x = words[i - 15];
                int y = words[i - 2];
                int s = (x >>> 7 | x << 25) ^ (x >>> 18 | x << 14) ^ x >>> 3;
                int t = (y >>> 17 | y << 15) ^ (y >>> 19 | y << 13) ^ y >>> 10;
                words[i] = t + words[i - 7] + s + words[i - 16];
            }
        }

        private void stir() {
            int a = sums[0];
            int b = sums[1];
            int c = sums[2];
            int d = sums[3];
            int e = sums[4];
            int f = sums[5];
            int g = sums[6];
            int h = sums[7];
            for (int i = 0; i < 64; i++) {
                int turnedE = (e >>> 6 | e << 26) ^ (e >>> 11 | e << 21) ^ (e >>> 25 | e << 7);
                int turnedA = (a >>> 2 | a << 30) ^ (a >>> 13 | a << 19) ^ (a >>> 22 | a << 10);
                int p = h + turnedE + (e & f ^ ~e & g) + CUBE_ROOTS[i] + words[i];
                int q = turnedA + (a & b ^ a & c ^ b & c);
                h = g;
                g = f;
                f = e;
                e = d + p;
                d = c;
                c = b;
                b = a;
                a = p + q;
            }
            sums[0] += a;
            sums[1] += b;
            sums[2] += c;
            sums[3] += d;
            sums[4] += e;
            sums[5] += f;
            sums[6] += g;
            sums[7] += h;
        }
    }

    /** A(x, y) stands at x + 5 y. */
    private static final class HashOne extends Hash {
        private static final int BLOCK = 136;
        private static final int[] TURNS = {
            0, 1, 62, 28, 27,
            36, 44, 6, 55, 20,
            3, 10, 43, 25, 39,
            41, 45, 15, 21, 8,
            18, 2, 61, 56, 14,
        };
        /** Where B(y, 2 x + 3 y modulo 5) stands. */
        private static final int[] TARGETS = {
            0, 10, 20, 5, 15,
            16, 1, 11, 21, 6,
            7, 17, 2, 12, 22,
            23, 8, 18, 3, 13,
            14, 24, 9, 19, 4,
        };
        private static final long[] ROUND_WORDS = {
            0x0000000000000001L, 0x0000000000008082L, 0x800000000000808aL,
            0x8000000080008000L, 0x000000000000808bL, 0x0000000080000001L,
            0x8000000080008081L, 0x8000000000008009L, 0x000000000000008aL,
            0x0000000000000088L, 0x0000000080008009L, 0x000000008000000aL,
            0x000000008000808bL, 0x800000000000008bL, 0x8000000000008089L,
            0x8000000000008003L, 0x8000000000008002L, 0x8000000000000080L,
            0x000000000000800aL, 0x800000008000000aL, 0x8000000080008081L,
            0x8000000000008080L, 0x0000000080000001L, 0x8000000080008008L,
        };

        private final long[] a = new long[25];
        private final long[] b = new long[25];

        void digest(Row in, Row out) {
            in.addNumber(31, 1);
            in.addNumber(0, (BLOCK - in.length % BLOCK) % BLOCK);
            in.put(in.length - 1, in.at(in.length - 1) ^ 128);
            for (int i = 0; i < 25; i++) {
                a[i] = 0;
            }
            for (int at = 0; at + BLOCK <= in.length; at += BLOCK) {
                absorb(in.bytes, at);
                for (int i = 0; i < 24; i++) {
                    mixColumns();
                    turnAndMixRows(ROUND_WORDS[i]);
                }
            }
            out.clear();
            for (int i = 0; i < HASH_SIZE; i++) {
                out.addNumber(a[i / 8] >>> (8 * (i % 8)), 1);
            }
        }

        private void absorb(byte[] bytes, int at) {
            for (int i = 0; i < BLOCK; i++) {
                a[i / 8] ^= (bytes[at + i] & 255L) << (8 * (i % 8));
            }
        }

        private void mixColumns() {
            long c0 = a[0] ^ a[5] ^ a[10] ^ a[15] ^ a[20];
            long c1 = a[1] ^ a[6] ^ a[11] ^ a[16] ^ a[21];
            long c2 = a[2] ^ a[7] ^ a[12] ^ a[17] ^ a[22];
            long c3 = a[3] ^ a[8] ^ a[13] ^ a[18] ^ a[23];
            long c4 = a[4] ^ a[9] ^ a[14] ^ a[19] ^ a[24];
            long d0 = c4 ^ (c1 << 1 | c1 >>> 63);
            long d1 = c0 ^ (c2 << 1 | c2 >>> 63);
            long d2 = c1 ^ (c3 << 1 | c3 >>> 63);
            long d3 = c2 ^ (c4 << 1 | c4 >>> 63);
            long d4 = c3 ^ (c0 << 1 | c0 >>> 63);
            for (int y = 0; y < 25; y += 5) {
                a[y] ^= d0;
                a[y + 1] ^= d1;
                a[y + 2] ^= d2;
                a[y + 3] ^= d3;
                a[y + 4] ^= d4;
            }
        }

        private void turnAndMixRows(long word) {
            for (int i = 0; i < 25; i++) {
                // A turn by 0 shifts right by 64, which Java takes as 0: the word stays as it is.
                b[TARGETS[i]] = a[i] << TURNS[i] | a[i] >>> (64 - TURNS[i]);
            }
            for (int y = 0; y < 25; y += 5) {
                long b0 = b[y];
                long b1 = b[y + 1];
                long b2 = b[y + 2];
                long b3 = b[y + 3];
                long b4 = b[y + 4];
                a[y] = b0 ^ ~b1 & b2;
                a[y + 1] = b1 ^ ~b2 & b3;
                a[y + 2] = b2 ^ ~b3 & b4;
                a[y + 3] = b3 ^ ~b4 & b0;
                a[y + 4] = b4 ^ ~b0 & b1;
            }
            a[0] ^= word;
        }
    }

    /** THE SHAPE. */
    private static final class Shape {
        int form;
        int n;
        int height;
        int layers;
        int a;
        int k;

        Shape() {
            become(0, 4, 1, 1, 1, 1);
        }

        static boolean fits(int form, int n, int height, int layers, int a, int k) {
            return isWithin(form, 0, 1) && (n == 4 || n == 8 || n == 12 || n == 16)
                && isWithin(height, 1, MOST_HEIGHT) && isWithin(layers, 1, MOST_LAYERS)
                && isWithin(a, 1, MOST_A) && isWithin(k, 1, MOST_K);
        }

        private static boolean isWithin(int x, int least, int most) {
            return x >= least && x <= most;
        }

        void become(int newForm, int newN, int newHeight, int newLayers, int newA, int newK) {
            form = newForm;
            n = newN;
            height = newHeight;
            layers = newLayers;
            a = newA;
            k = newK;
        }

        int len() {
            return 2 * n + (n <= 8 ? 2 : 3);
        }

        /** How many LEAVES a tree has. */
        int leaves() {
            return 1 << height;
        }

        boolean hasTree(int layer, int tree) {
            return isWithin(layer, 0, layers - 1) && isWithin(tree, 0, layer == layers - 1 ? 0 : leaves() - 1);
        }

        int fewSize() {
            return k * (a + 1) * n;
        }

        int size() {
            return n + fewSize() + layers * (len() + height) * n;
        }
    }

    /** T and what is made of T alone, in the layer and the tree that moveTo told last. */
    private static final class Hasher {
        final Row in = new Row(INPUT_ROOM);
        final Row out = new Row(HASH_SIZE);
        private final Hash zero = new HashZero();
        private final Hash one = new HashOne();
        private final Shape shape;
        private final Row seeds;
        private int layer;
        private int tree;

        Hasher(Shape shape, Row seeds) {
            this.shape = shape;
            this.seeds = seeds;
        }

        Hash ofForm(int form) {
            return form == 0 ? zero : one;
        }

        void moveTo(int newLayer, int newTree) {
            layer = newLayer;
            tree = newTree;
        }

        /** What T hashes ahead of the row; the row is then added to the input, and finish called. */
        void start(int kind, int u, int v, int w) {
            boolean compact = shape.form == 0;
            in.clear();
            in.lay(0, seeds, OPEN_SEED, shape.n);
            if (compact) {
                in.addNumber(0, 64 - shape.n);
            }
            in.addNumber(layer, compact ? 1 : 4);
            in.addNumber(tree, compact ? 8 : 12);
            in.addNumber(kind, compact ? 1 : 4);
            in.addNumber(u, 4);
            in.addNumber(v, 4);
            in.addNumber(w, 4);
        }

        void finish(Row to, int at) {
            ofForm(shape.form).digest(in, out);
            to.lay(at, out, 0, shape.n);
        }

        /** SECRET comes behind the row. */
        void addSecret(int kind, int u, int v, int w, Row to) {
            start(kind, u, v, w);
            in.add(seeds, SECRET_SEED, shape.n);
            finish(to, to.length);
        }

        /** CHAIN of the n bytes at a place of the row, in their place. */
        void chain(Row row, int at, int from, int steps, int u, int v) {
            for (int w = from; w < from + steps; w++) {
                start(CHAIN_KIND, u, v, w);
                in.add(row, at, shape.n);
                finish(row, at);
            }
        }
    }

    /** The chains of a LEAF, of ONE, and of what ONE leads to. */
    private static final class Chains {
        private static final int LAST = 15;
        private static final int TREE_STEP = 1 << MOST_HEIGHT;
        private static final int LAYER_STEP = TREE_STEP * TREE_STEP;
        private static final int MOST_LEAVES = MOST_LAYERS * LAYER_STEP;

        /** LEAVES are dear and change only with THE SHAPE and the SEEDS: they are kept till then. */
        final Row leaves = new Row(MOST_LEAVES * MOST_N);
        private final boolean[] known = new boolean[MOST_LEAVES];
        private final int[] digits = new int[MOST_LEN];
        private final Row ends = new Row(MOST_LEN * MOST_N);
        private final Shape shape;
        private final Hasher hasher;

        Chains(Shape shape, Hasher hasher) {
            this.shape = shape;
            this.hasher = hasher;
            leaves.addNumber(0, MOST_LEAVES * MOST_N);
        }

        void forgetLeaves() {
            for (int i = 0; i < MOST_LEAVES; i++) {
                known[i] = false;
            }
        }

        static int leafStart(int layer, int tree, int u) {
            return leafNumber(layer, tree, u) * MOST_N;
        }

        private static int leafNumber(int layer, int tree, int u) {
            return layer * LAYER_STEP + tree * TREE_STEP + u;
        }

        /** Makes LEAF u, if it is not there yet; the hasher is left in its layer and tree. */
        void keepLeaf(int layer, int tree, int u) {
            hasher.moveTo(layer, tree);
            int number = leafNumber(layer, tree, u);
            if (number < 0 || number >= MOST_LEAVES || known[number]) {
                return;
            }
            ends.clear();
            for (int v = 0; v < shape.len(); v++) {
                hasher.addSecret(CHAIN_SECRET_KIND, u, v, 0, ends);
                hasher.chain(ends, v * shape.n, 0, LAST, u, v);
            }
            hasher.start(LEAF_KIND, u, 0, 0);
            hasher.in.addAll(ends);
            hasher.finish(leaves, number * MOST_N);
            known[number] = true;
        }

        /** ONE's chains for the row come behind the signature. */
        void write(Row row, int u, Row to) {
            readDigits(row);
            for (int v = 0; v < shape.len(); v++) {
                int at = to.length;
                hasher.addSecret(CHAIN_SECRET_KIND, u, v, 0, to);
                hasher.chain(to, at, 0, digits[v], u, v);
            }
        }

        /** The row becomes the LEAF to which the chains at a place of the signature lead from it. */
        void lead(Row from, int at, int u, Row row) {
            readDigits(row);
            ends.clear();
            for (int v = 0; v < shape.len(); v++) {
                ends.add(from, at + v * shape.n, shape.n);
                hasher.chain(ends, v * shape.n, digits[v], LAST - digits[v], u, v);
            }
            hasher.start(LEAF_KIND, u, 0, 0);
            hasher.in.addAll(ends);
            hasher.finish(row, 0);
        }

        private void readDigits(Row row) {
            int missing = 0;
            for (int i = 0; i < 2 * shape.n; i++) {
                digits[i] = row.at(i / 2) >> (i % 2 == 0 ? 4 : 0) & LAST;
                missing += LAST - digits[i];
            }
            for (int i = shape.len() - 1; i >= 2 * shape.n; i--) {
                digits[i] = missing & LAST;
                missing >>= 4;
            }
        }
    }

    /** NODES above LEAVES, and above FEW LEAVES, which differ in their kind, u and numbers alone. */
    private static final class Trees {
        /** The NODES of one tree that stand at the same height. */
        final Row level = new Row((1 << MOST_A) * MOST_N);
        private final Shape shape;
        private final Hasher hasher;
        private final Chains chains;

        Trees(Shape shape, Hasher hasher, Chains chains) {
            this.shape = shape;
            this.hasher = hasher;
            this.chains = chains;
        }

        void gatherLeaves(int layer, int tree) {
            level.clear();
            for (int u = 0; u < shape.leaves(); u++) {
                chains.keepLeaf(layer, tree, u);
                level.add(chains.leaves, Chains.leafStart(layer, tree, u), shape.n);
            }
        }

        /** From the LEAVES that are gathered up to the ROOT, which is then the level's first row. */
        void climb() {
            for (int z = 1; z <= shape.height; z++) {
                rise(NODE_KIND, 0, z, 0, 1 << (shape.height - z));
            }
        }

        /** The level's pairs become the NODES z, the first of which has the number told. */
        private void rise(int kind, int u, int z, int first, int count) {
            for (int i = 0; i < count; i++) {
                hasher.start(kind, u, z, first + i);
                hasher.in.add(level, 2 * i * shape.n, 2 * shape.n);
                hasher.finish(level, i * shape.n);
            }
        }

        /**
         * The NODES beside the way from leaf j up come behind the signature;
         * the tree's top is then the level's first row.
         */
        void writePath(int kind, int u, int height, int j, Row to) {
            for (int z = 0; z < height; z++) {
                int width = 1 << (height - z);
                int beside = (j >> z ^ 1) & (width - 1);
                to.add(level, beside * shape.n, shape.n);
                rise(kind, u, z + 1, (j >> height) * (width / 2), width / 2);
            }
        }

        /** The row, leaf j at first, becomes the top to which the NODES at a place of the signature lead. */
        void leadPath(int kind, int u, int height, int j, Row from, int at, Row row) {
            for (int z = 0; z < height; z++) {
                boolean even = (j >> z) % 2 == 0;
                int beside = at + z * shape.n;
                hasher.start(kind, u, z + 1, j >> (z + 1));
                hasher.in.add(even ? row : from, even ? 0 : beside, shape.n);
                hasher.in.add(even ? from : row, even ? beside : 0, shape.n);
                hasher.finish(row, 0);
            }
        }
    }

    /** FEW. */
    private static final class FewTrees {
        private final Row tops = new Row(MOST_K * MOST_N);
        private final Row bare = new Row(MOST_N);
        private final Shape shape;
        private final Hasher hasher;
        private final Trees trees;

        FewTrees(Shape shape, Hasher hasher, Trees trees) {
            this.shape = shape;
            this.hasher = hasher;
            this.trees = trees;
        }

        /** FEW's part comes behind the signature, and FEW ROOT into the row. */
        void write(Points points, Row to, Row row) {
            int u = points.leafNumber();
            hasher.moveTo(0, points.treeNumber());
            tops.clear();
            for (int i = 0; i < shape.k; i++) {
                int first = i << shape.a;
                int j = first + points.choice(i);
                plant(u, first);
                hasher.addSecret(FEW_SECRET_KIND, u, 0, j, to);
                trees.writePath(FEW_KIND, u, shape.a, j, to);
                tops.add(trees.level, 0, shape.n);
            }
            joinTops(u, row);
        }

        /** The row becomes what FEW's part, at a place of the signature, leads to. */
        void lead(Points points, Row from, int start, Row row) {
            int u = points.leafNumber();
            int at = start;
            hasher.moveTo(0, points.treeNumber());
            tops.clear();
            for (int i = 0; i < shape.k; i++) {
                int j = (i << shape.a) + points.choice(i);
                hasher.start(FEW_KIND, u, 0, j);
                hasher.in.add(from, at, shape.n);
                hasher.finish(row, 0);
                trees.leadPath(FEW_KIND, u, shape.a, j, from, at + shape.n, row);
                tops.add(row, 0, shape.n);
                at += (shape.a + 1) * shape.n;
            }
            joinTops(u, row);
        }

        /** The trees' level becomes the FEW LEAVES of one tree, the first of which has the number told. */
        private void plant(int u, int first) {
            trees.level.clear();
            for (int j = first; j < first + (1 << shape.a); j++) {
                bare.clear();
                hasher.addSecret(FEW_SECRET_KIND, u, 0, j, bare);
                hasher.start(FEW_KIND, u, 0, j);
                hasher.in.addAll(bare);
                hasher.finish(trees.level, trees.level.length);
            }
        }

        private void joinTops(int u, Row row) {
            hasher.start(FEW_ROOT_KIND, u, 0, 0);
            hasher.in.addAll(tops);
            row.clear();
            hasher.finish(row, 0);
        }
    }

    /** MIXED and POINTS, and the numbers that are found in POINTS. */
    private static final class Points {
        private static final int BLOCK = 64;
        private static final int OUTER = 92, INNER = 54;

        /** TREE, LEAF, CHOICES, a byte each; empty ahead of any. */
        final Row found = new Row(2 + MOST_K);
        private final Row middle = new Row(HASH_SIZE);
        private final Shape shape;
        private final Row seeds;
        private final Hasher hasher;

        Points(Shape shape, Row seeds, Hasher hasher) {
            this.shape = shape;
            this.seeds = seeds;
            this.hasher = hasher;
        }

        int treeNumber() {
            return Math.max(found.at(0), 0);
        }

        int leafNumber() {
            return Math.max(found.at(1), 0);
        }

        int choice(int i) {
            return Math.max(found.at(2 + i), 0);
        }

        /** MIXED(rand) comes behind the signature. */
        void mix(Row rand, int start, Row message, Row to) {
            Row in = hasher.in;
            Hash hash = hasher.ofForm(shape.form);
            in.clear();
            if (shape.form == 0) {
                addMasked(INNER);
            } else {
                in.add(seeds, MESSAGE_SEED, shape.n);
            }
            in.add(rand, start, shape.n);
            in.addAll(message);
            hash.digest(in, hasher.out);
            if (shape.form == 0) {
                middle.lay(0, hasher.out, 0, HASH_SIZE);
                in.clear();
                addMasked(OUTER);
                in.addAll(middle);
                hash.digest(in, hasher.out);
            }
            to.add(hasher.out, 0, shape.n);
        }

        private void addMasked(int mask) {
            for (int i = 0; i < BLOCK; i++) {
                int b = i < shape.n ? seeds.at(MESSAGE_SEED + i) : 0;
                hasher.in.addNumber(b ^ mask, 1);
            }
        }

        /** The numbers of POINTS(R), R being the signature's first row. */
        void find(Row signature, Row keyRoot, Row message) {
            Row in = hasher.in;
            Hash hash = hasher.ofForm(shape.form);
            startPoints(signature);
            in.addAll(keyRoot);
            in.addAll(message);
            hash.digest(in, hasher.out);
            if (shape.form == 0) {
                middle.lay(0, hasher.out, 0, HASH_SIZE);
                startPoints(signature);
                in.addAll(middle);
                in.addNumber(0, 4);
                hash.digest(in, hasher.out);
            }
            readNumbers(hasher.out);
        }

        private void startPoints(Row signature) {
            hasher.in.clear();
            hasher.in.add(signature, 0, shape.n);
            hasher.in.add(seeds, OPEN_SEED, shape.n);
        }

        private void readNumbers(Row hashed) {
            int treeBits = shape.height * (shape.layers - 1);
            int treeEnd = roundedUp(shape.k * shape.a) + roundedUp(treeBits);
            // Two bits are the most that TREE has, so its last byte has them all.
            int tree = hashed.at(treeEnd - 1) & (1 << treeBits) - 1;
            found.clear();
            found.addNumber(tree, 1);
            found.addNumber(hashed.at(treeEnd) & (1 << shape.height) - 1, 1);
            for (int i = 0; i < shape.k; i++) {
                found.addNumber(readBits(hashed, i * shape.a, shape.a), 1);
            }
        }

        private static int roundedUp(int bits) {
            return (bits + 7) / 8;
        }

        private static int readBits(Row hashed, int from, int count) {
            int number = 0;
            for (int i = from; i < from + count; i++) {
                number = 2 * number + (hashed.at(i / 8) >> (7 - i % 8) & 1);
            }
            return number;
        }
    }
}
