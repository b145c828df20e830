import java.util.Arrays;

/** The document's "Terms": for each sentence there that names an edge a test of its own. */
public final class TermsTest {
    /** How long the text is, its HASH 1, made outside of Java: each beside a multiple of 136. */
    private static final String[][] ENDS_OF_HASH_ONE = {
        {"134", "e2cfc29f235b28cc0981c221351da3380041508f7844c5ac21c1ffb33fcfa23e"},
        {"135", "8718c5da8c17af4eddafe058d4d6cdb76d17fed735aea8367049bd5cf34fc69c"},
        {"270", "5e8890c0e39630f168aec505969af2db8761dcde332e240b4b29a7e4bc50e614"},
        {"273", "8bd41f17dda4ca9316554293be12efdca3069b7dd5e3026dde22069908395583"},
        {"406", "bd29fa3ddadec05f0b699adf9c1aaf82416b06c9326a2b1233523e1cfcceee22"},
        {"407", "7bae1bdb346fec243f3641a9083b72ba1b985afe3526255a08e99a717bd92a6f"},
        {"408", "3f4139298b4369c4e24714aeb61a1bab6f5afdc5419c59f5f558fdc325560455"},
        {"409", "1b173c805714119f92fdea1b53d6b63a4e4563af2d865a49dd8dee7d98edfb14"},
        {"543", "34df16c7d0af90d1adc1156fdc17c63acbd62f014a8f63f8f4a64bb6b96de69b"},
        {"544", "c56c911a0f9a2d9e3784661b6c2dc41df97e7bc68db53f4c022ca149f2ae337c"},
        {"545", "3f8a5c2c08eebfce6b9f1b3f053b6b3f99251a1141fbb9f551fdbd3f7aaeb6ec"},
        {"599", "0e4391955acf6138ebe2034644fbfa51abb6de5ddae2d2115cf9c8b996671511"},
    };
    /** How many bytes 255 there are, their HASH 0, made outside of Java. */
    private static final String[][] SUMS_THAT_GO_ROUND = {
        {"20", "9a8dcd3f9ff7aa3114e141f03c12989d363ea81fd74c02eea63c5f41489cb17a"},
        {"60", "629a5c51b535fbed8cf66fe66ca7d893116c7b7a851db41f079e929680540f58"},
        {"600", "f7dc73923d9acbcb4eaefd58f05fa9a5a61d8344be184d7ab6f22a80d5fa4feb"},
    };
    private static final int[][] RANGES = {{0, 1}, {4, 16}, {1, 2}, {1, 2}, {1, 4}, {1, 6}};
    private static final int[] SIZES = {4, 8, 12, 16};

    private final Due due = new Due();

    public static void main(String[] args) {
        TermsTest test = new TermsTest();
        test.theFirstRefusalThatFits();
        test.refusalsComeAheadOfAnswers();
        test.noneIsMinusNine();
        test.sumsGoRound();
        test.endsOfRowsInHashZero();
        test.endsOfRowsInHashOne();
        test.endsOfRowsBehindLongerOnes();
        test.endsOfRowsInSignatures();
        test.rangesOfTheShape();
        test.shapeAtFirst();
        test.lenOfEachN();
        test.seedsAtFirst();
        test.theFirstBytesOfSeedsAreMeant();
        test.seedsToldUnderAnotherN();
        test.theTapeHasSixHundredBytes();
        test.asManyBytesAsTheShapeWants();
        test.due.end();
    }

    /** "the first of these that fits": no KEY and a full TAPE make no other refusal of OUTSIDE, nor of FULL. */
    private void theFirstRefusalThatFits() {
        HashSigner x = new HashSigner();
        Help.feedText(x, 600);
        due.is("no KEY, a full TAPE: trim(601)", x.trim(601), -2);
        due.is("no KEY, a full TAPE: hash(2)", x.hash(2), -2);
        due.is("no KEY, a full TAPE: shape", Help.shape(x, "0 5 1 1 1 1"), -2);
        due.is("no KEY, a full TAPE: seed(3, 0, 0)", x.seed(3, 0, 0), -2);
        due.is("no KEY, a full TAPE: alter(0, 0)", x.alter(0, 0), -2);
        due.is("no KEY, a full TAPE: cut(1)", x.cut(1), -2);
        due.is("no KEY, a full TAPE: leaf(1, 0, 0, 0)", x.leaf(1, 0, 0, 0), -2);
        due.is("no KEY, a full TAPE: told(6)", x.told(6), -2);
        due.is("no KEY, a full TAPE: sign()", x.sign(), -3);
        due.is("no KEY, a full TAPE: signWith(0, 0)", x.signWith(0, 0), -3);
        due.is("no KEY, a full TAPE: verify()", x.verify(), -3);
        due.is("no KEY, a full TAPE: feed(0, ..)", x.feed(0, 0, 0, 0, 0), -4);
    }

    private void refusalsComeAheadOfAnswers() {
        HashSigner x = new HashSigner();
        due.is("OUTSIDE ahead of NONE: leaf(1, 0, 0, 4)", x.leaf(1, 0, 0, 4), -2);
        due.is("OUTSIDE ahead of NONE: leaf(0, 0, 2, -1)", x.leaf(0, 0, 2, -1), -2);
        due.is("STATE ahead of 0: verify() of no SIGNATURE", x.verify(), -3);
        x.key();
        due.is("0 with a KEY: verify() of no SIGNATURE", x.verify(), 0);
    }

    private void noneIsMinusNine() {
        HashSigner x = new HashSigner();
        due.is("NONE: hashByte(0)", x.hashByte(0), -9);
        due.is("NONE: root(0)", x.root(0), -9);
        due.is("NONE: signed(0)", x.signed(0), -9);
        due.is("NONE: ledTo(0)", x.ledTo(0), -9);
        due.is("NONE: index(0)", x.index(0), -9);
        due.is("NONE: leaf(0, 0, 0, 4)", x.leaf(0, 0, 0, 4), -9);
    }

    /** "Sums of words go round at 32 bits": of bytes 255 each sum goes beyond them. */
    private void sumsGoRound() {
        for (String[] row : SUMS_THAT_GO_ROUND) {
            HashSigner x = new HashSigner();
            int length = Integer.parseInt(row[0]);
            for (int i = 0; i < length; i += 20) {
                x.feed(-1, -1, -1, -1, -1);
            }
            x.hash(0);
            due.is("HASH 0 of " + length + " bytes 255", Help.hashed(x), row[1]);
        }
    }

    /** "0s up to 8 less than a multiple of 64": with 55 bytes there is none, with 56 the most. */
    private void endsOfRowsInHashZero() {
        for (int end = 64; end <= 640; end += 64) {
            for (int length : new int[] {end - 10, end - 9, end - 8, end - 7, end - 1, end, end + 1}) {
                if (length <= 600) {
                    HashSigner x = new HashSigner();
                    Help.feedText(x, length);
                    x.hash(0);
                    due.is("HASH 0 of " + length, Help.hashed(x), Help.hex(Help.sha256(Help.text(length))));
                }
            }
        }
    }

    /** "0s up to a multiple of 136, the last byte xor 128": with 135 bytes, byte 31 is the last one. */
    private void endsOfRowsInHashOne() {
        for (String[] row : ENDS_OF_HASH_ONE) {
            HashSigner x = new HashSigner();
            Help.feedText(x, Integer.parseInt(row[0]));
            x.hash(1);
            due.is("HASH 1 of " + row[0], Help.hashed(x), row[1]);
        }
    }

    /** What stands behind a row's end are 0s, also where a longer row was hashed ahead of it. */
    private void endsOfRowsBehindLongerOnes() {
        for (int length = 0; length <= 600; length++) {
            HashSigner x = new HashSigner();
            for (int i = 0; i < 30; i++) {
                x.feed(-1, -1, -1, -1, -1);
            }
            x.hash(0);
            x.hash(1);
            x.trim(0);
            Help.feedText(x, length);
            x.hash(0);
            due.is("HASH 0 of " + length + " behind 600", Help.hashed(x), Help.hex(Help.sha256(Help.text(length))));
            x.hash(1);
            due.is("HASH 1 of " + length + " behind 600", Help.hashed(x), Help.hex(Model.hashOne(Help.text(length))));
        }
    }

    /** Texts of every length, so that the rows of MIXED and of POINTS end at each place there is. */
    private void endsOfRowsInSignatures() {
        for (int form = 0; form < 2; form++) {
            Model m = new Model();
            m.shape(form, 4, 2, 2, 4, 3);
            m.key();
            byte[] text = Help.text(600);
            for (int length = 0; length <= 600; length++) {
                HashSigner x = new HashSigner();
                x.shape(form, 4, 2, 2, 4, 3);
                x.key();
                Help.feedText(x, length);
                m.tapeIs(Arrays.copyOf(text, length));
                String name = "form " + form + ", a text of " + length;
                long rand = (long) length << 32;
                x.signWith(rand, 0);
                byte[] r = m.mixedOf(rand, 0);
                due.is(name + ": R", Help.hex(Help.signatureSlice(x, 0, 4)), Help.hex(r));
                due.is(name + ": index", Help.index(x), m.numbersOf(r));
                due.is(name + ": verify()", x.verify(), 1);
            }
        }
    }

    private static boolean isRight(int place, int number) {
        return number >= RANGES[place][0] && number <= RANGES[place][1] && (place != 1 || number % 4 == 0);
    }

    private static int sizeOf(int[] s) {
        int len = s[1] < 12 ? 2 * s[1] + 2 : 2 * s[1] + 3;
        return s[1] * (1 + s[5] * (s[4] + 1) + s[3] * (len + s[2]));
    }

    /** "form (0, 1), n (4, 8, 12, 16), height (1, 2), layers (1, 2), a (1 .. 4), k (1 .. 6)". */
    private void rangesOfTheShape() {
        for (int place = 0; place < 6; place++) {
            for (int number = -40; number <= 40; number++) {
                int[] six = {1, 12, 2, 2, 3, 5};
                six[place] = number;
                int want = isRight(place, number) ? sizeOf(six) : HashSigner.OUTSIDE;
                due.is("number " + place + " of THE SHAPE is " + number, Help.shape(new HashSigner(), six), want);
            }
        }
    }

    /** "at first 0, 4, 1, 1, 1, 1". */
    private void shapeAtFirst() {
        HashSigner x = new HashSigner();
        due.is("at first: told(2)", x.told(2), 56);
        HashSigner same = new HashSigner();
        Help.shape(same, "0 4 1 1 1 1");
        x.feed(1, 2, 3, 4, 5);
        same.feed(1, 2, 3, 4, 5);
        due.is("at first: all of it", Help.picture(x), Help.picture(same));
    }

    /** "len is 2 n + 2 for n 4, 8, 2 n + 3 for 12, 16". */
    private void lenOfEachN() {
        int[] lens = {10, 18, 27, 35};
        for (int i = 0; i < 4; i++) {
            HashSigner x = new HashSigner();
            x.shape(0, SIZES[i], 1, 1, 1, 1);
            due.is("len of n " + SIZES[i], x.told(3), lens[i]);
        }
    }

    /** "ROWS of 16 bytes, 0s at first". */
    private void seedsAtFirst() {
        String zeros = "0".repeat(32);
        for (int n : SIZES) {
            HashSigner told = keyed(n, zeros + " " + zeros + " " + zeros);
            HashSigner x = new HashSigner();
            x.shape(1, n, 1, 1, 1, 1);
            x.key();
            x.sign();
            due.is("Help.SEEDS at first, n " + n, seen(x), seen(told));
        }
    }

    private static HashSigner keyed(int n, String seeds) {
        HashSigner x = new HashSigner();
        x.shape(1, n, 1, 1, 1, 1);
        Help.seeds(x, seeds);
        x.key();
        x.sign();
        return x;
    }

    private static String seen(HashSigner x) {
        return Help.root(x) + " " + Help.hex(Help.signatureSlice(x, 0, Math.min(x.told(1), 400)));
    }

    /** "of which the first n are meant". */
    private void theFirstBytesOfSeedsAreMeant() {
        for (int n : SIZES) {
            String seen = seen(keyed(n, Help.SEEDS));
            for (int which = 0; which < 3; which++) {
                for (int at = 0; at < 16; at++) {
                    StringBuilder other = new StringBuilder(Help.SEEDS);
                    int digit = 33 * which + 2 * at;
                    other.setCharAt(digit, other.charAt(digit) == '0' ? '1' : '0');
                    due.is("n " + n + ": another byte " + at + " of SEED " + which + " is meant",
                        seen(keyed(n, other.toString())).equals(seen) ? 0 : 1, at < n ? 1 : 0);
                }
            }
        }
    }

    /** "also where n has become another one since they were told", and one more in between. */
    private void seedsToldUnderAnotherN() {
        for (int before : SIZES) {
            for (int between : SIZES) {
                for (int n : SIZES) {
                    HashSigner x = keyed(before, Help.SEEDS);
                    x.shape(1, between, 1, 1, 1, 1);
                    x.key();
                    x.shape(1, n, 1, 1, 1, 1);
                    x.key();
                    x.sign();
                    due.is("Help.SEEDS told under n " + before + ", then n " + between + ", meant under n " + n, seen(x),
                        seen(keyed(n, Help.SEEDS)));
                }
            }
        }
    }

    /** "THE TAPE (600 bytes at most)". */
    private void theTapeHasSixHundredBytes() {
        HashSigner x = new HashSigner();
        for (int i = 1; i <= 30; i++) {
            due.is("feed " + i, x.feed(i, 0, -i, 0, i), 20 * i);
        }
        due.is("feed 31", x.feed(31, 0, -31, 0, 31), HashSigner.FULL);
        due.is("told(0) of a full TAPE", x.told(0), 600);
        x.key();
        due.is("sign() of a full TAPE", x.sign(), 56);
        due.is("verify() of a full TAPE", x.verify(), 1);
    }

    /** "It is RIGHT, if it has as many bytes as THE SHAPE wants": of each SHAPE that there is. */
    private void asManyBytesAsTheShapeWants() {
        for (int number = 0; number < 768; number++) {
            int[] six = {
                number % 2, SIZES[number / 2 % 4], 1 + number / 8 % 2, 1 + number / 16 % 2, 1 + number / 32 % 4,
                1 + number / 128,
            };
            String name = Arrays.toString(six);
            HashSigner x = new HashSigner();
            due.is(name + ": shape", Help.shape(x, six), sizeOf(six));
            due.is(name + ": told(2)", x.told(2), sizeOf(six));
            x.key();
            due.is(name + ": sign()", x.sign(), sizeOf(six));
            due.is(name + ": told(1)", x.told(1), sizeOf(six));
            due.is(name + ": verify() of all bytes", x.verify(), 1);
            x.cut(sizeOf(six) - 1);
            due.is(name + ": verify() of one byte less", x.verify(), 0);
        }
    }
}
