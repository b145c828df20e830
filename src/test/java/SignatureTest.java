import java.nio.ByteBuffer;

/** Promises 10 to 17 and 19: signatures, altered, cut, verified, and where they lie. */
public final class SignatureTest {
    private static final String SEEDS =
        "8899aabbccddeeff0011223344556677 f0e1d2c3b4a5968778695a4b3c2d1e0f 0123456789abcdeffedcba9876543210";
    private static final String[] SHAPES = {"0 4 1 1 1 1", "1 8 2 2 3 4", "0 12 2 1 4 2", "1 16 1 2 2 6"};

    private final Due due = new Due();

    public static void main(String[] args) {
        SignatureTest test = new SignatureTest();
        test.stateWithoutKey();
        for (String six : SHAPES) {
            test.signVerifies(six);
            test.signWithOpenSeedIsSign(six);
            test.signWithMeansTheFirstN(six);
            test.everyPartCounts(six);
            test.cutOnes(six);
        }
        // The smallest shape has four points in all: another text often leads to the same one.
        for (int i = 1; i < SHAPES.length; i++) {
            test.textCounts(SHAPES[i]);
        }
        test.signedEdges();
        test.alterEdges();
        test.cutEdges();
        test.ledToStays();
        test.indexEdges();
        test.told();
        test.due.end();
    }

    private static HashSigner keyed(String six) {
        HashSigner x = new HashSigner();
        Help.shape(x, six);
        Help.seeds(x, SEEDS);
        Help.feedText(x, 33);
        x.key();
        return x;
    }

    private static HashSigner signedOne(String six) {
        HashSigner x = keyed(six);
        x.sign();
        return x;
    }

    private void stateWithoutKey() {
        HashSigner x = signedOne(SHAPES[0]);
        String bytes = Help.hex(Help.signatureSlice(x, 0, 56));
        String index = Help.index(x);
        x.seed(1, 0, 0);
        due.is("sign() with no KEY", x.sign(), HashSigner.STATE);
        due.is("signWith() with no KEY", x.signWith(1, 2), HashSigner.STATE);
        due.is("verify() with no KEY", x.verify(), HashSigner.STATE);
        due.is("STATE leaves THE SIGNATURE", Help.hex(Help.signatureSlice(x, 0, 56)), bytes);
        due.is("STATE leaves the numbers", Help.index(x), index);
        due.is("STATE leads to nothing", x.ledTo(0), HashSigner.NONE);
    }

    private void signVerifies(String six) {
        HashSigner x = keyed(six);
        due.is(six + ": sign()", x.sign(), x.told(2));
        due.is(six + ": told(1)", x.told(1), x.told(2));
        due.is(six + ": ledTo(0) ahead of verify()", x.ledTo(0), HashSigner.NONE);
        due.is(six + ": verify()", x.verify(), 1);
        due.is(six + ": ledTo", Help.led(x), Help.root(x));
        due.is(six + ": verify() again", x.verify(), 1);
    }

    private void signWithOpenSeedIsSign(String six) {
        HashSigner x = signedOne(six);
        HashSigner y = keyed(six);
        due.is(six + ": signWith()", y.signWith(0x0123456789abcdefL, 0xfedcba9876543210L), y.told(2));
        due.is(six + ": signWith(SEED 2)", Help.hex(Help.signatureSlice(y, 0, 56)),
            Help.hex(Help.signatureSlice(x, 0, 56)));
        HashSigner other = keyed(six);
        other.signWith(5, 6);
        due.is(six + ": verify() behind signWith()", other.verify(), 1);
        due.is(six + ": another rand, another R", Help.hex(Help.signatureSlice(other, 0, 4))
            .equals(Help.hex(Help.signatureSlice(x, 0, 4))) ? 1 : 0, 0);
    }

    private void signWithMeansTheFirstN(String six) {
        int n = Help.numbers(six)[1];
        byte[] last = new byte[16];
        last[n - 1] = 1;
        HashSigner zero = keyed(six);
        zero.signWith(0, 0);
        HashSigner meant = keyed(six);
        meant.signWith(Help.high(Help.hex(last)), Help.low(Help.hex(last)));
        String bytes = Help.hex(Help.signatureSlice(zero, 0, n));
        due.is(six + ": byte n - 1 of rand is meant",
            Help.hex(Help.signatureSlice(meant, 0, n)).equals(bytes) ? 1 : 0, 0);
        if (n < 16) {
            byte[] behind = new byte[16];
            behind[n] = 1;
            HashSigner same = keyed(six);
            same.signWith(Help.high(Help.hex(behind)), Help.low(Help.hex(behind)));
            due.is(six + ": byte n of rand is not meant", Help.hex(Help.signatureSlice(same, 0, n)), bytes);
        }
    }

    private static Model modelOf(String six) {
        Model m = new Model();
        int[] s = Help.numbers(six);
        m.shape(s[0], s[1], s[2], s[3], s[4], s[5]);
        for (int i = 0; i < 3; i++) {
            String seed = SEEDS.split(" ")[i];
            m.seed(i, Help.high(seed), Help.low(seed));
        }
        ByteBuffer text = ByteBuffer.wrap(Help.text(40));
        for (int i = 0; i < 2; i++) {
            m.feed(text.getInt(), text.getInt(), text.getInt(), text.getInt(), text.getInt());
        }
        m.trim(33);
        m.key();
        m.sign();
        return m;
    }

    /** One byte of each row of n bytes is altered, and set back. */
    private void everyPartCounts(String six) {
        HashSigner x = signedOne(six);
        Model m = modelOf(six);
        int n = x.told(4);
        int size = x.told(2);
        for (int part = 0; part < size / n; part++) {
            if (part % 80 == 79) {
                x = signedOne(six);
            }
            int i = part * n + part % n;
            int was = m.signed(i);
            int other = was ^ 1 << part % 8;
            due.is(six + ": alter(" + i + ")", x.alter(i, other), m.alter(i, other));
            due.is(six + ": verify() with byte " + i + " altered", x.verify(), m.verify());
            due.is(six + ": ledTo(0) with byte " + i + " altered", x.ledTo(0), m.ledTo(0));
            due.is(six + ": alter(" + i + ") back", x.alter(i, was), m.alter(i, was));
        }
        due.is(six + ": verify() with all set back", x.verify(), 1);
    }

    private void textCounts(String six) {
        HashSigner x = signedOne(six);
        x.trim(32);
        due.is(six + ": verify() of a shorter text", x.verify(), 0);
        x.trim(0);
        due.is(six + ": verify() of no text", x.verify(), 0);
        Help.feedText(x, 34);
        due.is(six + ": verify() of a longer text", x.verify(), 0);
        due.is(six + ": it led elsewhere", Help.led(x).equals(Help.root(x)) ? 1 : 0, 0);
        x.trim(33);
        due.is(six + ": verify() of the text", x.verify(), 1);
        due.is(six + ": sign() of an empty text", x.trim(0) + x.sign(), x.told(2));
        due.is(six + ": verify() of an empty text", x.verify(), 1);
    }

    private void cutOnes(String six) {
        HashSigner x = signedOne(six);
        x.verify();
        int size = x.told(2);
        String led = Help.led(x);
        String index = Help.index(x);
        x.trim(3);
        due.is(six + ": cut(size)", x.cut(size), 0);
        due.is(six + ": cut(size - 1)", x.cut(size - 1), 1);
        due.is(six + ": verify() of a cut one", x.verify(), 0);
        due.is(six + ": ledTo behind that is as it was", Help.led(x), led);
        due.is(six + ": index behind that is as it was", Help.index(x), index);
        due.is(six + ": signed(size - 1)", x.signed(size - 1), HashSigner.NONE);
        due.is(six + ": alter(size - 1, 0)", x.alter(size - 1, 0), HashSigner.OUTSIDE);
        due.is(six + ": cut(size)", x.cut(size), HashSigner.OUTSIDE);
        due.is(six + ": cut(0)", x.cut(0), size - 1);
        due.is(six + ": verify() of none", x.verify(), 0);
        due.is(six + ": told(1)", x.told(1), 0);
        due.is(six + ": sign() again", x.sign(), size);
        due.is(six + ": verify() again", x.verify(), 1);
    }

    private void signedEdges() {
        HashSigner x = signedOne(SHAPES[0]);
        for (int i : new int[] {-1, 56, 57, Integer.MIN_VALUE, Integer.MAX_VALUE}) {
            due.is("signed(" + i + ")", x.signed(i), HashSigner.NONE);
        }
        for (int i = 0; i < 56; i++) {
            int b = x.signed(i);
            due.is("signed(" + i + ") is a byte", b >= 0 && b <= 255 ? 1 : 0, 1);
        }
    }

    private void alterEdges() {
        HashSigner x = signedOne(SHAPES[0]);
        int was = x.signed(55);
        due.is("alter(55, -1)", x.alter(55, -1), HashSigner.OUTSIDE);
        due.is("alter(55, 256)", x.alter(55, 256), HashSigner.OUTSIDE);
        due.is("alter(55, least)", x.alter(55, Integer.MIN_VALUE), HashSigner.OUTSIDE);
        due.is("alter(56, 0)", x.alter(56, 0), HashSigner.OUTSIDE);
        due.is("alter(-1, 0)", x.alter(-1, 0), HashSigner.OUTSIDE);
        due.is("alter(most, 0)", x.alter(Integer.MAX_VALUE, 0), HashSigner.OUTSIDE);
        due.is("refused alters change nothing", x.signed(55), was);
        due.is("verify() behind refused alters", x.verify(), 1);
        due.is("alter(55, 255)", x.alter(55, 255), was);
        due.is("signed(55)", x.signed(55), 255);
        due.is("alter(55, 0)", x.alter(55, 0), 255);
        due.is("alter(55, was)", x.alter(55, was), 0);
        due.is("alter(55, was) again", x.alter(55, was), was);
        due.is("verify() behind alters", x.verify(), 1);
    }

    private void cutEdges() {
        HashSigner x = signedOne(SHAPES[0]);
        for (int n : new int[] {-1, 57, Integer.MIN_VALUE, Integer.MAX_VALUE}) {
            due.is("cut(" + n + ")", x.cut(n), HashSigner.OUTSIDE);
        }
        due.is("refused cuts change nothing", x.verify(), 1);
        int first = x.signed(0);
        due.is("cut(1)", x.cut(1), 55);
        due.is("signed(0) behind cut(1)", x.signed(0), first);
        due.is("signed(1) behind cut(1)", x.signed(1), HashSigner.NONE);
        due.is("told(1) behind cut(1)", x.told(1), 1);
    }

    private void ledToStays() {
        HashSigner x = signedOne(SHAPES[0]);
        x.verify();
        String led = Help.led(x);
        due.is("how many bytes it led to", led.length(), 8);
        for (int i : new int[] {-1, 4, 16, Integer.MIN_VALUE, Integer.MAX_VALUE}) {
            due.is("ledTo(" + i + ")", x.ledTo(i), HashSigner.NONE);
        }
        x.seed(0, 9, 9);
        x.key();
        due.is("ledTo behind another KEY", Help.led(x), led);
        x.sign();
        due.is("ledTo behind sign()", Help.led(x), led);
        x.verify();
        due.is("ledTo behind verify()", Help.led(x), Help.root(x));
    }

    private void indexEdges() {
        HashSigner x = keyed("1 8 2 2 3 4");
        due.is("index(0) ahead of any", x.index(0), HashSigner.NONE);
        x.sign();
        for (int i : new int[] {-1, 6, 7, 8, Integer.MIN_VALUE, Integer.MAX_VALUE}) {
            due.is("index(" + i + ")", x.index(i), HashSigner.NONE);
        }
        for (int i = 0; i < 6; i++) {
            int most = i < 2 ? 3 : 7;
            due.is("index(" + i + ") is not above " + most, x.index(i) >= 0 && x.index(i) <= most ? 1 : 0, 1);
        }
        String signed = Help.index(x);
        x.trim(5);
        due.is("index behind trim", Help.index(x), signed);
        x.verify();
        due.is("verify() finds other numbers", Help.index(x).equals(signed) ? 1 : 0, 0);
        String verified = Help.index(x);
        x.cut(3);
        x.trim(4);
        x.verify();
        due.is("verify() of a cut one finds none", Help.index(x), verified);
        HashSigner one = signedOne(SHAPES[2]);
        due.is("TREE of one layer", one.index(0), 0);
    }

    private void told() {
        HashSigner x = signedOne("1 12 2 2 4 6");
        int[] due6 = {33, 12 * (1 + 30 + 58), 12 * (1 + 30 + 58), 27, 12, 1};
        for (int i = 0; i < 6; i++) {
            due.is("told(" + i + ")", x.told(i), due6[i]);
        }
        for (int i : new int[] {-1, 6, Integer.MIN_VALUE, Integer.MAX_VALUE}) {
            due.is("told(" + i + ")", x.told(i), HashSigner.OUTSIDE);
        }
    }
}
