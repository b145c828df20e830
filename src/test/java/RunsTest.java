import java.util.Random;

/** All promises: long runs of calls of every kind, each answer held against the model's. */
public final class RunsTest {
    /** As many as an object is used for. */
    private static final int CALLS = 512;
    /** From one call on, so many look at THE SIGNATURE; calls of every kind come ahead of them and behind. */
    private static final int FIRST_READ = 300, READS = 112;
    private static final int[] SIZES = {4, 8, 12, 16};
    private static final int[] ODD = {Integer.MIN_VALUE, Integer.MAX_VALUE, -1, -2, -9, 256, 1 << 16, 600, 601};

    private final Random random;
    private final Due due;
    private final HashSigner x = new HashSigner();
    private final Model m = new Model();

    private RunsTest(long start, Due due) {
        random = new Random(start);
        this.due = due;
    }

    public static void main(String[] args) {
        Due due = new Due();
        int runs = args.length > 0 ? Integer.parseInt(args[0]) : 150;
        for (int run = 0; run < runs && !due.isAnyWrong(); run++) {
            new RunsTest(run, due).go(run, run % 3 == 0 ? 8 : 40);
        }
        due.end();
    }

    /** One call in so many is any of all; the others look around in what there is. */
    private void go(int run, int dear) {
        for (int i = 0; i < CALLS && !due.isAnyWrong(); i++) {
            String name = "run " + run + ", call " + (i + 1) + ": ";
            if (i == FIRST_READ) {
                read(name);
                i += READS - 1;
            } else if (random.nextInt(dear) == 0) {
                change(name);
            } else {
                look(name);
            }
        }
    }

    private void read(String name) {
        int from = random.nextInt(m.told(2) + 1);
        for (int i = from; i < from + READS; i++) {
            due.is(name + "signed(" + i + ")", x.signed(i), m.signed(i));
        }
    }

    private int near(int most) {
        return random.nextInt(25) == 0 ? ODD[random.nextInt(ODD.length)] : random.nextInt(most + 3) - 1;
    }

    private void change(String name) {
        switch (random.nextInt(10)) {
            case 0:
                changeShape(name);
                break;
            case 1:
                changeSeed(name);
                break;
            case 2, 3, 4:
                due.is(name + "key()", x.key(), m.key());
                break;
            case 5, 6:
                due.is(name + "sign()", x.sign(), m.sign());
                break;
            case 7:
                long high = random.nextLong();
                long low = random.nextLong();
                due.is(name + "signWith(" + high + ", " + low + ")", x.signWith(high, low), m.signWith(high, low));
                break;
            default:
                due.is(name + "verify()", x.verify(), m.verify());
        }
    }

    private void changeShape(String name) {
        int form = random.nextInt(2);
        int n = SIZES[random.nextInt(4)];
        int height = 1 + random.nextInt(2);
        int layers = 1 + random.nextInt(2);
        int a = 1 + random.nextInt(4);
        int k = 1 + random.nextInt(6);
        switch (random.nextInt(12)) {
            case 0 -> form = near(1);
            case 1 -> n = near(20);
            case 2 -> height = near(2);
            case 3 -> layers = near(2);
            case 4 -> a = near(4);
            case 5 -> k = near(6);
            default -> { }
        }
        due.is(name + "shape(" + form + ", " + n + ", " + height + ", " + layers + ", " + a + ", " + k + ")",
            x.shape(form, n, height, layers, a, k), m.shape(form, n, height, layers, a, k));
    }

    private void changeSeed(String name) {
        int which = near(2);
        long high = random.nextLong();
        long low = random.nextLong();
        due.is(name + "seed(" + which + ", " + high + ", " + low + ")",
            x.seed(which, high, low), m.seed(which, high, low));
    }

    private void look(String name) {
        int i = near(20);
        switch (random.nextInt(16)) {
            case 0 -> lookAtLeaf(name);
            case 1 -> due.is(name + "hash(" + (i / 9) + ")", x.hash(i / 9), m.hash(i / 9));
            case 2, 3 -> {
                int b = near(32);
                due.is(name + "hashByte(" + b + ")", x.hashByte(b), m.hashByte(b));
            }
            case 4 -> {
                int to = random.nextInt(3) == 0 ? near(600) : m.told(0) - near(3);
                due.is(name + "trim(" + to + ")", x.trim(to), m.trim(to));
            }
            case 5, 6 -> {
                int w = random.nextInt();
                due.is(name + "feed(" + w + ", ..)", x.feed(w, -w, w * 3, i, ~w), m.feed(w, -w, w * 3, i, ~w));
            }
            case 7 -> due.is(name + "root(" + i + ")", x.root(i), m.root(i));
            case 8 -> due.is(name + "ledTo(" + i + ")", x.ledTo(i), m.ledTo(i));
            case 9, 10 -> due.is(name + "index(" + (i / 2) + ")", x.index(i / 2), m.index(i / 2));
            case 11 -> due.is(name + "told(" + (i / 3) + ")", x.told(i / 3), m.told(i / 3));
            case 12 -> changeSignature(name);
            default -> {
                int at = near(m.told(2));
                due.is(name + "signed(" + at + ")", x.signed(at), m.signed(at));
            }
        }
    }

    private void changeSignature(String name) {
        int i = near(m.told(2));
        int b = near(255);
        if (random.nextInt(4) != 0) {
            due.is(name + "alter(" + i + ", " + b + ")", x.alter(i, b), m.alter(i, b));
        } else {
            int to = random.nextInt(4) == 0 ? i : m.told(1) + near(0);
            due.is(name + "cut(" + to + ")", x.cut(to), m.cut(to));
        }
    }

    private void lookAtLeaf(String name) {
        int layer = random.nextInt(10) == 0 ? near(1) : random.nextInt(2);
        int tree = random.nextInt(3) == 0 ? near(4) : 0;
        int u = random.nextInt(10) == 0 ? near(4) : random.nextInt(3);
        int i = near(15);
        due.is(name + "leaf(" + layer + ", " + tree + ", " + u + ", " + i + ")",
            x.leaf(layer, tree, u, i), m.leaf(layer, tree, u, i));
    }
}
