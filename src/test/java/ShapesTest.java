import java.util.Arrays;
import java.util.Random;

/**
 * "2 THE SHAPE" to "RIGHT", and promises 8 to 12 and 15 to 18: of each of the 768 SHAPES a key, a whole signature,
 * where it lies, a LEAF, and what it leads to with a bit changed, held against the model.
 */
public final class ShapesTest {
    private static final int[] SIZES = {4, 8, 12, 16};
    private static final int SHAPES = 768;
    /** So few that one object's other calls stay below 512 with them. */
    private static final int SLICE = 350;

    private final Due due = new Due();
    private final Random random = new Random(19);

    public static void main(String[] args) {
        ShapesTest test = new ShapesTest();
        for (int number = 0; number < SHAPES; number++) {
            test.shapeNumber(number);
        }
        test.due.end();
    }

    private static int[] sixOf(int number) {
        return new int[] {
            number % 2, SIZES[number / 2 % 4], 1 + number / 8 % 2, 1 + number / 16 % 2, 1 + number / 32 % 4, 1 + number / 128,
        };
    }

    private void shapeNumber(int number) {
        int[] six = sixOf(number);
        long[] words = random.longs(8).toArray();
        int length = random.nextInt(601);
        boolean with = number % 3 == 0;
        String name = "shape " + Arrays.toString(six) + ": ";
        Model m = signedModel(six, words, length, with);
        for (int from = SLICE; from <= m.told(1); from += SLICE) {
            wholeSlice(name, signed(six, words, length, with), m, from);
        }
        HashSigner x = signed(six, words, length, with);
        wholeSlice(name, x, m, 0);
        lookAround(name, x, m);
        changeABit(name, x, m);
    }

    private static Model signedModel(int[] six, long[] words, int length, boolean with) {
        Model m = new Model();
        m.shape(six[0], six[1], six[2], six[3], six[4], six[5]);
        for (int i = 0; i < 3; i++) {
            m.seed(i, words[2 * i], words[2 * i + 1]);
        }
        m.tapeIs(Help.text(length));
        m.key();
        if (with) {
            m.signWith(words[6], words[7]);
        } else {
            m.sign();
        }
        return m;
    }

    private static HashSigner signed(int[] six, long[] words, int length, boolean with) {
        HashSigner x = new HashSigner();
        Help.shape(x, six);
        for (int i = 0; i < 3; i++) {
            x.seed(i, words[2 * i], words[2 * i + 1]);
        }
        Help.feedText(x, length);
        x.key();
        if (with) {
            x.signWith(words[6], words[7]);
        } else {
            x.sign();
        }
        return x;
    }

    private void wholeSlice(String name, HashSigner x, Model m, int from) {
        StringBuilder got = new StringBuilder();
        StringBuilder want = new StringBuilder();
        for (int i = from; i < from + SLICE; i++) {
            got.append(Help.twoDigits(x.signed(i)));
            want.append(Help.twoDigits(m.signed(i)));
        }
        due.is(name + "signed(" + from + "), ..", got.toString(), want.toString());
    }

    private void lookAround(String name, HashSigner x, Model m) {
        int tree = m.index(0);
        int u = m.index(1);
        due.is(name + "root(..)", Help.root(x), Help.row(m::root));
        for (int i = 0; i <= 8; i++) {
            due.is(name + "index(" + i + ")", x.index(i), m.index(i));
        }
        due.is(name + "the LEAF that signed", x.leaf(0, tree, u, 0), m.leaf(0, tree, u, 0));
        due.is(name + "verify()", x.verify(), 1);
        due.is(name + "ledTo(..)", Help.led(x), Help.row(m::root));
    }

    private void changeABit(String name, HashSigner x, Model m) {
        int i = random.nextInt(m.told(1));
        int b = m.signed(i) ^ 1 << random.nextInt(8);
        String behind = " behind alter(" + i + ", " + b + ")";
        due.is(name + "alter(" + i + ", " + b + ")", x.alter(i, b), m.alter(i, b));
        due.is(name + "verify()" + behind, x.verify(), m.verify());
        due.is(name + "ledTo(..)" + behind, Help.led(x), Help.row(m::ledTo));
        for (int what = 0; what <= 8; what++) {
            due.is(name + "index(" + what + ")" + behind, x.index(what), m.index(what));
        }
    }
}
