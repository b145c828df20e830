import java.util.HexFormat;

/** Promises 15 to 17 and 19: signatures verified, where they led, their numbers, and what is told. */
public final class VerifyTest {
    private static final String[] SHAPES = {"0 4 1 1 1 1", "1 8 2 2 3 4", "0 12 2 1 4 2", "1 16 1 2 2 6"};

    /**
     * Of SHAPE 0, n, 1, 1, 1, 1, SEEDS of 0s and an empty text: n, a row in place of THE SIGNATURE's last n bytes, and
     * the row to which it leads then. Searched for outside of Java: of n 4 it differs from the ROOT in one byte alone,
     * of the others the first or the last four bytes are the ROOT's.
     */
    private static final String[] NEARLY_RIGHT = {
        "4 16b9e300 7bbad516", "4 52814300 cc10d516", "4 a7185500 ccba7816", "4 c57fc100 ccbad5ce",
        "8 1cfa194500000000 3ed26d15df8f438b", "8 a450a84300000000 f7ac1f4d2b07bf49",
        "12 7d8b51a20000000000000000 dbc74b6f353c50904c2b6598", "12 176de5330100000000000000 f637731d027df64c9cebc973",
        "16 0196428c020000000000000000000000 e6c4a7a307ff3c0782a973f00fe4f9e3",
        "16 1f3ff35c000000000000000000000000 074c1f2b05dbc70ee86087537d4dc943",
    };

    private final Due due = new Due();

    public static void main(String[] args) {
        VerifyTest test = new VerifyTest();
        test.verifyState();
        for (String six : SHAPES) {
            test.verifyRight(six);
            test.verifyEveryPart(six);
            test.verifyOfFewerBytes(six);
            test.verifyOfNoBytes(six);
        }
        // The smallest shape has four points in all: another text often leads to the same one.
        for (int i = 1; i < SHAPES.length; i++) {
            test.verifyOfAnotherText(SHAPES[i]);
            test.ledToStaysWhereBytesAreMissing(SHAPES[i]);
            test.indexStaysWhereBytesAreMissing(SHAPES[i]);
        }
        test.verifyLooksAtEveryByte();
        test.verifyOfAnotherKey();
        test.ledToNone();
        test.ledToAheadOfAny();
        test.ledToBehindAnotherShape();
        test.ledToBehindOtherCalls();
        test.indexNone();
        test.indexAheadOfAny();
        test.indexBehindAnotherShape();
        test.indexBehindOtherCalls();
        test.indexIsOfTheLatest();
        test.indexIsWithinItsBits();
        test.told();
        test.toldOutside();
        test.toldWhetherThereIsAKey();
        test.due.end();
    }

    private static HashSigner signedOne(String six) {
        HashSigner x = Help.keyed(six);
        x.sign();
        return x;
    }

    /** Promise 15: "STATE: no KEY", whatever there is of a SIGNATURE. */
    private void verifyState() {
        HashSigner x = new HashSigner();
        due.is("verify() ahead of any KEY", x.verify(), HashSigner.STATE);
        x = signedOne(SHAPES[0]);
        x.seed(1, 0, 0);
        due.is("verify() behind seed", x.verify(), HashSigner.STATE);
        due.is("ledTo(0) behind STATE", x.ledTo(0), HashSigner.NONE);
        x.cut(5);
        due.is("verify() of a cut one behind seed", x.verify(), HashSigner.STATE);
        x.cut(0);
        due.is("verify() of none behind seed", x.verify(), HashSigner.STATE);
        x.key();
        due.is("verify() of none behind key()", x.verify(), 0);
        Help.shape(x, SHAPES[0]);
        due.is("verify() behind shape", x.verify(), HashSigner.STATE);
    }

    /** Promise 15: "Whether THE SIGNATURE is RIGHT for the MESSAGE: 1". */
    private void verifyRight(String six) {
        HashSigner x = signedOne(six);
        due.is(six + ": verify()", x.verify(), 1);
        due.is(six + ": ledTo", Help.led(x), Help.root(x));
        due.is(six + ": verify() again", x.verify(), 1);
    }

    private static Model modelOf(String six) {
        Model m = new Model();
        int[] s = Help.numbers(six);
        m.shape(s[0], s[1], s[2], s[3], s[4], s[5]);
        for (int i = 0; i < 3; i++) {
            String seed = Help.SEEDS.split(" ")[i];
            m.seed(i, Help.high(seed), Help.low(seed));
        }
        m.tapeIs(Help.text(Help.TEXT));
        m.key();
        m.sign();
        return m;
    }

    /** Promise 15: one byte of each row of n bytes is altered, and set back. */
    private void verifyEveryPart(String six) {
        HashSigner x = signedOne(six);
        Model m = modelOf(six);
        int n = x.told(4);
        int size = x.told(2);
        for (int part = 0; part < size / n; part++) {
            if (part % 80 == 79) {
                x = signedOne(six);
            }
            int i = part * n + part % n;
            int was = m.signed(i);
            int other = was ^ 1 << part % 8;
            due.is(six + ": alter(" + i + ")", x.alter(i, other), m.alter(i, other));
            due.is(six + ": verify() with byte " + i + " altered", x.verify(), m.verify());
            due.is(six + ": ledTo(0) with byte " + i + " altered", x.ledTo(0), m.ledTo(0));
            due.is(six + ": alter(" + i + ") back", x.alter(i, was), m.alter(i, was));
        }
        due.is(six + ": verify() with all set back", x.verify(), 1);
    }

    /** Promise 15: "a SIGNATURE that has not as many bytes as THE SHAPE wants" is not RIGHT. */
    private void verifyOfFewerBytes(String six) {
        HashSigner x = signedOne(six);
        int size = x.told(2);
        for (int gone = 1; gone <= 100 && gone < size; gone++) {
            x.cut(size - gone);
            due.is(six + ": verify() of " + (size - gone), x.verify(), 0);
        }
        x.cut(1);
        due.is(six + ": verify() of one byte", x.verify(), 0);
        due.is(six + ": ledTo(0) behind these alone", x.ledTo(0), HashSigner.NONE);
    }

    private void verifyOfNoBytes(String six) {
        HashSigner x = Help.keyed(six);
        due.is(six + ": verify() ahead of any SIGNATURE", x.verify(), 0);
        due.is(six + ": ledTo(0) behind that", x.ledTo(0), HashSigner.NONE);
        due.is(six + ": index(0) behind that", x.index(0), HashSigner.NONE);
        x.sign();
        x.cut(0);
        due.is(six + ": verify() behind cut(0)", x.verify(), 0);
        due.is(six + ": ledTo(0) behind that", x.ledTo(0), HashSigner.NONE);
        x.sign();
        due.is(six + ": verify() behind sign()", x.verify(), 1);
    }

    private void verifyOfAnotherText(String six) {
        HashSigner x = signedOne(six);
        x.trim(32);
        due.is(six + ": verify() of a shorter text", x.verify(), 0);
        x.trim(0);
        due.is(six + ": verify() of no text", x.verify(), 0);
        Help.feedText(x, 34);
        due.is(six + ": verify() of a longer text", x.verify(), 0);
        due.is(six + ": it led elsewhere", Help.led(x).equals(Help.root(x)) ? 1 : 0, 0);
        x.trim(33);
        due.is(six + ": verify() of the text", x.verify(), 1);
        x.trim(0);
        x.sign();
        due.is(six + ": verify() of an empty text", x.verify(), 1);
    }

    /** Promise 15: it "leads to THE KEY's ROOT" only if each byte is the ROOT's. */
    private void verifyLooksAtEveryByte() {
        for (String nearly : NEARLY_RIGHT) {
            String[] parts = nearly.split(" ");
            int n = Integer.parseInt(parts[0]);
            HashSigner x = new HashSigner();
            x.shape(0, n, 1, 1, 1, 1);
            x.key();
            x.sign();
            byte[] last = HexFormat.of().parseHex(parts[1]);
            for (int i = 0; i < n; i++) {
                x.alter(x.told(1) - n + i, last[i] & 255);
            }
            due.is("verify() that leads to " + parts[2], x.verify(), 0);
            due.is("ledTo behind that", Help.led(x), parts[2]);
            due.is("how many bytes are the ROOT's", same(Help.led(x), Help.root(x)), n == 4 ? 3 : 4);
        }
    }

    private static int same(String led, String root) {
        int same = 0;
        for (int at = 0; at + 2 <= led.length() && at + 2 <= root.length(); at += 2) {
            same += led.regionMatches(at, root, at, 2) ? 1 : 0;
        }
        return same;
    }

    private void verifyOfAnotherKey() {
        HashSigner x = signedOne(SHAPES[1]);
        x.seed(0, 1, 1);
        x.key();
        due.is("verify() against the KEY of another SEED 0", x.verify(), 0);
        Help.seed(x, 0, Help.SEEDS.split(" ")[0]);
        x.key();
        due.is("verify() against the KEY of before", x.verify(), 1);
    }

    /** Promise 16: "NONE": below byte 0, above byte n - 1, also where a longer row was led to. */
    private void ledToNone() {
        for (int n = 4; n <= 16; n += 4) {
            HashSigner x = signedOne("0 16 1 1 1 1");
            x.verify();
            x.shape(0, n, 1, 1, 1, 1);
            x.key();
            x.sign();
            x.verify();
            for (int i : Help.outside(0, n - 1)) {
                due.is("ledTo(" + i + ") of n " + n, x.ledTo(i), HashSigner.NONE);
            }
            for (int i = n; i < 20; i++) {
                due.is("ledTo(" + i + ") of n " + n, x.ledTo(i), HashSigner.NONE);
            }
            for (int i = 0; i < n; i++) {
                due.is("ledTo(" + i + ") of n " + n, x.ledTo(i), x.root(i));
            }
        }
    }

    /** Promise 16: "at the latest verify() that found it to have as many bytes as wanted". */
    private void ledToStaysWhereBytesAreMissing(String six) {
        HashSigner x = signedOne(six);
        x.trim(9);
        x.verify();
        String led = Help.led(x);
        due.is(six + ": it led elsewhere", led.equals(Help.root(x)) ? 1 : 0, 0);
        x.sign();
        for (int n : new int[] {x.told(2) - 1, x.told(4), 1, 0}) {
            x.cut(n);
            due.is(six + ": verify() of " + n, x.verify(), 0);
            due.is(six + ": ledTo behind it", Help.led(x), led);
        }
        x.sign();
        due.is(six + ": verify() of all", x.verify(), 1);
        due.is(six + ": ledTo behind it", Help.led(x), Help.root(x));
    }

    private void ledsToNothing(String name, HashSigner x) {
        for (int i = -1; i < 17; i++) {
            due.is("ledTo(" + i + ") " + name, x.ledTo(i), HashSigner.NONE);
        }
    }

    /** Promise 16: "NONE ahead of any". */
    private void ledToAheadOfAny() {
        HashSigner x = new HashSigner();
        ledsToNothing("of a new object", x);
        x.verify();
        ledsToNothing("behind STATE", x);
        x.key();
        ledsToNothing("behind key()", x);
        x.verify();
        ledsToNothing("behind verify() of none", x);
        x.sign();
        ledsToNothing("behind sign()", x);
        x.signWith(1, 2);
        ledsToNothing("behind signWith()", x);
        x.cut(55);
        x.verify();
        ledsToNothing("behind verify() of 55", x);
    }

    /** Promise 16: "NONE behind another SHAPE", until the next verify() of all bytes. */
    private void ledToBehindAnotherShape() {
        for (String six : new String[] {"1 8 2 2 3 4", "1 8 2 2 3 3", "0 8 2 2 3 4", "1 16 2 2 3 4", "0 4 1 1 1 1"}) {
            HashSigner x = signedOne(SHAPES[1]);
            x.verify();
            Help.shape(x, six);
            ledsToNothing("behind shape " + six, x);
            x.key();
            ledsToNothing("behind shape " + six + ", key()", x);
            x.sign();
            ledsToNothing("behind shape " + six + ", sign()", x);
            x.verify();
            due.is("ledTo behind shape " + six + ", verify()", Help.led(x), Help.root(x));
        }
    }

    private void ledToBehindOtherCalls() {
        HashSigner x = signedOne(SHAPES[1]);
        x.verify();
        String led = Help.led(x);
        due.is("ledTo behind verify()", led, Help.root(x));
        Help.shape(x, "1 8 2 2 3 7");
        x.seed(0, 9, 9);
        due.is("ledTo behind seed, with no KEY", Help.led(x), led);
        x.verify();
        due.is("ledTo behind STATE", Help.led(x), led);
        x.key();
        x.sign();
        x.alter(0, 0);
        x.trim(3);
        x.feed(1, 2, 3, 4, 5);
        x.hash(0);
        x.leaf(0, 0, 0, 0);
        x.cut(0);
        due.is("ledTo behind other calls", Help.led(x), led);
    }

    /** Promise 17: "NONE: there is none such": CHOICE k, also where there were more CHOICES. */
    private void indexNone() {
        for (int k = 1; k <= 6; k++) {
            HashSigner x = signedOne("1 4 1 2 4 6");
            x.shape(1, 4, 1, 2, 4, k);
            x.key();
            x.sign();
            for (int what : Help.outside(0, 1 + k)) {
                due.is("index(" + what + ") of k " + k, x.index(what), HashSigner.NONE);
            }
            for (int what = 2 + k; what < 12; what++) {
                due.is("index(" + what + ") of k " + k, x.index(what), HashSigner.NONE);
            }
            for (int what = 0; what < 2 + k; what++) {
                due.is("index(" + what + ") of k " + k + " is there", x.index(what) >= 0 ? 1 : 0, 1);
            }
        }
    }

    private void hasNoNumbers(String name, HashSigner x) {
        for (int what = -1; what < 9; what++) {
            due.is("index(" + what + ") " + name, x.index(what), HashSigner.NONE);
        }
    }

    /** Promise 17: "NONE: ahead of any". */
    private void indexAheadOfAny() {
        HashSigner x = new HashSigner();
        hasNoNumbers("of a new object", x);
        x.sign();
        x.signWith(1, 2);
        x.verify();
        hasNoNumbers("behind STATE", x);
        x.key();
        hasNoNumbers("behind key()", x);
        x.verify();
        hasNoNumbers("behind verify() of none", x);
    }

    /** Promise 17: "NONE: behind another SHAPE", until the next of these calls. */
    private void indexBehindAnotherShape() {
        for (String six : new String[] {"1 8 2 2 3 4", "1 8 2 2 3 3", "0 8 2 2 3 4", "1 16 2 2 3 4", "0 4 1 1 1 1"}) {
            HashSigner x = signedOne(SHAPES[1]);
            x.verify();
            Help.shape(x, six);
            hasNoNumbers("behind shape " + six, x);
            x.key();
            hasNoNumbers("behind shape " + six + ", key()", x);
            x.verify();
            hasNoNumbers("behind shape " + six + ", verify() of none", x);
            x.signWith(1, 2);
            due.is("index(1) behind shape " + six + ", signWith()", x.index(1) >= 0 ? 1 : 0, 1);
        }
    }

    private void indexBehindOtherCalls() {
        HashSigner x = signedOne(SHAPES[1]);
        String index = Help.index(x);
        Help.shape(x, "1 8 2 2 3 7");
        x.seed(0, 9, 9);
        due.is("index behind seed, with no KEY", Help.index(x), index);
        x.sign();
        x.signWith(5, 5);
        x.verify();
        due.is("index behind STATE", Help.index(x), index);
        x.key();
        x.trim(3);
        x.feed(1, 2, 3, 4, 5);
        x.hash(0);
        x.leaf(0, 3, 2, 0);
        x.alter(0, 0);
        x.cut(0);
        due.is("index behind other calls", Help.index(x), index);
    }

    /** Promise 17: "Of the latest sign(), signWith(), or verify()". */
    private void indexIsOfTheLatest() {
        HashSigner x = signedOne(SHAPES[1]);
        String signed = Help.index(x);
        x.trim(5);
        due.is("index behind trim", Help.index(x), signed);
        due.is("verify() of another text", x.verify(), 0);
        String verified = Help.index(x);
        due.is("verify() finds other numbers", verified.equals(signed) ? 1 : 0, 0);
        x.signWith(8, 9);
        String told = Help.index(x);
        due.is("signWith() finds other numbers", told.equals(verified) ? 1 : 0, 0);
        x.verify();
        due.is("verify() finds those of signWith()", Help.index(x), told);
        x.trim(0);
        Help.feedText(x, Help.TEXT);
        x.sign();
        due.is("sign() finds those of before", Help.index(x), signed);
    }

    /** Promise 17: "verify() that found so many bytes". */
    private void indexStaysWhereBytesAreMissing(String six) {
        HashSigner x = signedOne(six);
        String signed = Help.index(x);
        x.trim(8);
        for (int n : new int[] {x.told(2) - 1, x.told(4), 1, 0}) {
            x.cut(n);
            due.is(six + ": verify() of " + n, x.verify(), 0);
            due.is(six + ": index behind it", Help.index(x), signed);
        }
    }

    /** Promise 17: TREE and LEAF have height bits (TREE none in one layer), a CHOICE has a bits; all of them come. */
    private void indexIsWithinItsBits() {
        for (int layers = 1; layers <= 2; layers++) {
            for (int height = 1; height <= 2; height++) {
                for (int a = 1; a <= 4; a++) {
                    HashSigner x = new HashSigner();
                    x.shape(1, 4, height, layers, a, 6);
                    x.key();
                    int[] seen = new int[8];
                    for (int i = 0; i < 50; i++) {
                        x.signWith((long) i << 32, 0);
                        for (int what = 0; what < 8; what++) {
                            seen[what] |= x.index(what);
                        }
                    }
                    String name = "layers " + layers + ", height " + height + ", a " + a;
                    due.is(name + ": bits of TREE", seen[0], layers == 1 ? 0 : (1 << height) - 1);
                    due.is(name + ": bits of LEAF", seen[1], (1 << height) - 1);
                    for (int what = 2; what < 8; what++) {
                        due.is(name + ": bits of CHOICE " + (what - 2), seen[what], (1 << a) - 1);
                    }
                }
            }
        }
    }

    /** Promise 19: each of the numbers, as the calls before it leave them. */
    private void told() {
        HashSigner x = new HashSigner();
        tellsSix("new", x, 0, 0, 56, 10, 4, 0);
        x.key();
        tellsSix("key()", x, 0, 0, 56, 10, 4, 1);
        x.sign();
        tellsSix("sign()", x, 0, 56, 56, 10, 4, 1);
        x.feed(0, 0, 0, 0, 0);
        tellsSix("feed", x, 20, 56, 56, 10, 4, 1);
        x.cut(55);
        tellsSix("cut", x, 20, 55, 56, 10, 4, 1);
        x.trim(3);
        tellsSix("trim", x, 3, 55, 56, 10, 4, 1);
        x.seed(0, 1, 1);
        tellsSix("seed", x, 3, 55, 56, 10, 4, 0);
        Help.shape(x, "1 12 2 2 4 6");
        tellsSix("shape", x, 3, 0, 1068, 27, 12, 0);
    }

    private void tellsSix(String name, HashSigner x, int... want) {
        for (int i = 0; i < 6; i++) {
            due.is("told(" + i + ") behind " + name, x.told(i), want[i]);
        }
    }

    /** Promise 19: "OUTSIDE". */
    private void toldOutside() {
        for (HashSigner x : new HashSigner[] {new HashSigner(), signedOne(SHAPES[3])}) {
            for (int what : Help.outside(0, 5)) {
                due.is("told(" + what + ")", x.told(what), HashSigner.OUTSIDE);
            }
        }
    }

    /** Promise 19: "5 whether there is a KEY (1, 0)". */
    private void toldWhetherThereIsAKey() {
        HashSigner x = new HashSigner();
        due.is("told(5) of a new object", x.told(5), 0);
        x.leaf(0, 0, 0, 0);
        due.is("told(5) behind leaf()", x.told(5), 0);
        x.key();
        due.is("told(5) behind key()", x.told(5), 1);
        x.key();
        due.is("told(5) behind key() again", x.told(5), 1);
        x.seed(3, 0, 0);
        Help.shape(x, "0 4 1 1 1 0");
        due.is("told(5) behind refused calls", x.told(5), 1);
        x.seed(1, 0, 0);
        due.is("told(5) behind seed", x.told(5), 0);
        x.key();
        Help.shape(x, "0 4 1 1 1 1");
        due.is("told(5) behind shape", x.told(5), 0);
    }
}
