/** Promises 10 to 14: signatures, their bytes, altered and cut. */
public final class SignatureTest {
    private static final String[] SHAPES = {"0 4 1 1 1 1", "1 8 2 2 3 4", "0 12 2 1 4 2", "1 16 1 2 2 6"};
    /** The first of the shapes has so many bytes. */
    private static final int SIZE = 56;

    private final Due due = new Due();

    public static void main(String[] args) {
        SignatureTest test = new SignatureTest();
        test.stateAheadOfAnyKey();
        test.stateBehindSeed();
        test.stateBehindShape();
        for (String six : SHAPES) {
            test.signTellsHowMany(six);
            test.signWithTellsHowMany(six);
            test.signWithOpenSeedIsSign(six);
            test.signWithMeansTheFirstN(six);
        }
        test.signWithAtTheEdgesOfNumbers();
        test.signTakesThePlaceOfAnother();
        test.signOfAnEmptyAndAFullTape();
        test.signedNone();
        test.signedNoneWithoutSignature();
        test.signedNoneBehindCut();
        test.signedNoneBehindALongerOne();
        test.signedIsAByte();
        test.alterOutsideByte();
        test.alterOutsideWithoutSignature();
        test.alterOutsideBehindCut();
        test.alterOutsideValue();
        test.alterTellsWhatItWas();
        test.alterNeedsNoKey();
        test.cutBelowZero();
        test.cutAboveWhatItHas();
        test.cutOfAll();
        test.cutOfNothing();
        test.cutWithoutSignature();
        test.cutKeepsTheFirst();
        test.cutNeedsNoKey();
        test.due.end();
    }

    private static HashSigner signedOne() {
        HashSigner x = Help.keyed(SHAPES[0]);
        x.sign();
        return x;
    }

    private void refusesToSign(String name, HashSigner x) {
        due.is("sign() " + name, x.sign(), HashSigner.STATE);
        due.is("signWith(1, 2) " + name, x.signWith(1, 2), HashSigner.STATE);
    }

    /** Promises 10 and 11: "STATE: no KEY", and then THE SIGNATURE and its numbers are not there. */
    private void stateAheadOfAnyKey() {
        HashSigner x = new HashSigner();
        refusesToSign("ahead of any KEY", x);
        due.is("told(1) behind STATE", x.told(1), 0);
        due.is("signed(0) behind STATE", x.signed(0), HashSigner.NONE);
        due.is("index(0) behind STATE", x.index(0), HashSigner.NONE);
        x.leaf(0, 0, 0, 0);
        refusesToSign("behind leaf()", x);
    }

    /** Promises 10 and 11: "STATE: no KEY", and then THE SIGNATURE is as it was. */
    private void stateBehindSeed() {
        for (int which = 0; which < 3; which++) {
            HashSigner x = signedOne();
            String bytes = Help.signature(x);
            String index = Help.index(x);
            x.seed(which, 0, 0);
            x.trim(1);
            refusesToSign("behind seed " + which, x);
            due.is("STATE leaves THE SIGNATURE", Help.signature(x), bytes);
            due.is("STATE leaves the numbers", Help.index(x), index);
            x.key();
            due.is("sign() behind key()", x.sign(), SIZE);
            due.is("signWith(1, 2) behind key()", x.signWith(1, 2), SIZE);
        }
    }

    private void stateBehindShape() {
        HashSigner x = signedOne();
        Help.shape(x, SHAPES[0]);
        refusesToSign("behind shape", x);
        due.is("told(1) behind shape", x.told(1), 0);
        x.key();
        due.is("sign() behind key()", x.sign(), SIZE);
    }

    /** Promise 10: "how many bytes". */
    private void signTellsHowMany(String six) {
        HashSigner x = Help.keyed(six);
        due.is(six + ": sign()", x.sign(), x.told(2));
        due.is(six + ": told(1)", x.told(1), x.told(2));
        due.is(six + ": verify()", x.verify(), 1);
        due.is(six + ": sign() again", x.sign(), x.told(2));
        due.is(six + ": told(1) again", x.told(1), x.told(2));
    }

    /** Promise 11: "Likewise". */
    private void signWithTellsHowMany(String six) {
        HashSigner x = Help.keyed(six);
        due.is(six + ": signWith()", x.signWith(-5, 6), x.told(2));
        due.is(six + ": told(1)", x.told(1), x.told(2));
        due.is(six + ": verify()", x.verify(), 1);
        due.is(six + ": signWith() again", x.signWith(7, -8), x.told(2));
        due.is(six + ": verify() again", x.verify(), 1);
    }

    /** Promise 10: "rand being SEED 2". */
    private void signWithOpenSeedIsSign(String six) {
        HashSigner x = Help.keyed(six);
        x.sign();
        HashSigner y = Help.keyed(six);
        y.signWith(0xfedcba9876543210L, 0x0123456789abcdefL);
        due.is(six + ": signWith(SEED 2)", Help.hex(Help.signatureSlice(y, 0, SIZE)),
            Help.hex(Help.signatureSlice(x, 0, SIZE)));
        HashSigner other = Help.keyed(six);
        other.signWith(5, 6);
        due.is(six + ": another rand, another R", Help.hex(Help.signatureSlice(other, 0, 4))
            .equals(Help.hex(Help.signatureSlice(x, 0, 4))) ? 1 : 0, 0);
    }

    /** Promise 11: "the first n bytes of Z(high, 8) | Z(low, 8)". */
    private void signWithMeansTheFirstN(String six) {
        int n = Help.numbers(six)[1];
        HashSigner zero = Help.keyed(six);
        zero.signWith(0, 0);
        String r = Help.hex(Help.signatureSlice(zero, 0, n));
        for (int at = 0; at < 16; at++) {
            byte[] rand = new byte[16];
            rand[at] = 1;
            HashSigner x = Help.keyed(six);
            x.signWith(Help.high(Help.hex(rand)), Help.low(Help.hex(rand)));
            due.is(six + ": byte " + at + " of rand is meant",
                Help.hex(Help.signatureSlice(x, 0, n)).equals(r) ? 0 : 1, at < n ? 1 : 0);
        }
    }

    private void signWithAtTheEdgesOfNumbers() {
        long[] numbers = {0, 1, -1, Long.MIN_VALUE, Long.MAX_VALUE, 0x0102030405060708L, 1L << 32, -1L << 32};
        for (int form = 0; form < 2; form++) {
            for (int i = 0; i < numbers.length; i++) {
                long high = numbers[i];
                long low = numbers[(i + 3) % numbers.length];
                HashSigner x = new HashSigner();
                Model m = new Model();
                x.shape(form, 16, 1, 1, 4, 6);
                m.shape(form, 16, 1, 1, 4, 6);
                x.key();
                m.key();
                String name = "form " + form + ": signWith(" + high + ", " + low + ")";
                due.is(name, x.signWith(high, low), m.signWith(high, low));
                for (int at = 0; at < 48; at++) {
                    due.is(name + ": signed(" + at + ")", x.signed(at), m.signed(at));
                }
            }
        }
    }

    /** Promises 10 and 11: "THE SIGNATURE becomes", whatever has become of the one before. */
    private void signTakesThePlaceOfAnother() {
        String bytes = Help.signature(signedOne());
        HashSigner x = signedOne();
        x.cut(0);
        due.is("sign() behind cut(0)", x.sign(), SIZE);
        due.is("its bytes", Help.signature(x), bytes);
        x.cut(SIZE - 1);
        x.alter(3, x.signed(3) ^ 255);
        due.is("sign() behind cut(55), alter", x.sign(), SIZE);
        due.is("its bytes", Help.signature(x), bytes);
        x.signWith(3, 3);
        due.is("signWith(3, 3) makes another one", Help.signature(x).equals(bytes) ? 1 : 0, 0);
        x.cut(5);
        due.is("signWith() behind cut(5)", x.signWith(0xfedcba9876543210L, 0), SIZE);
        due.is("its bytes", Help.signature(x), bytes);
    }

    private void signOfAnEmptyAndAFullTape() {
        for (int form = 0; form < 2; form++) {
            for (int length : new int[] {0, 600}) {
                HashSigner x = new HashSigner();
                Model m = new Model();
                x.shape(form, 16, 1, 1, 1, 1);
                m.shape(form, 16, 1, 1, 1, 1);
                Help.feedText(x, length);
                m.tapeIs(Help.text(length));
                x.key();
                m.key();
                due.is("sign() of a text of " + length, x.sign(), m.sign());
                for (int i = 0; i < 160; i++) {
                    due.is("a text of " + length + ": signed(" + i + ")", x.signed(i), m.signed(i));
                }
                due.is("verify() of a text of " + length, x.verify(), 1);
            }
        }
    }

    /** Promise 12: "NONE": below byte 0, above the last one. */
    private void signedNone() {
        HashSigner x = signedOne();
        for (int i : Help.outside(0, SIZE - 1)) {
            due.is("signed(" + i + ")", x.signed(i), HashSigner.NONE);
        }
    }

    private void signedNoneWithoutSignature() {
        HashSigner x = Help.keyed(SHAPES[0]);
        for (int i = -1; i <= SIZE; i++) {
            due.is("signed(" + i + ") ahead of any", x.signed(i), HashSigner.NONE);
        }
    }

    private void signedNoneBehindCut() {
        HashSigner x = signedOne();
        for (int n = SIZE - 1; n >= 0; n--) {
            x.cut(n);
            due.is("signed(" + n + ") behind cut(" + n + ")", x.signed(n), HashSigner.NONE);
            due.is("signed(" + (SIZE - 1) + ") behind cut(" + n + ")", x.signed(SIZE - 1), HashSigner.NONE);
        }
    }

    private void signedNoneBehindALongerOne() {
        HashSigner x = Help.keyed("0 16 2 2 4 6");
        x.sign();
        due.is("signed(1679) of 1680", x.signed(1679) >= 0 ? 1 : 0, 1);
        due.is("signed(1680) of 1680", x.signed(1680), HashSigner.NONE);
        Help.shape(x, SHAPES[0]);
        x.key();
        x.sign();
        for (int i = SIZE; i < 100; i++) {
            due.is("signed(" + i + ") of 56 behind 1680", x.signed(i), HashSigner.NONE);
        }
        due.is("signed(1679) of 56 behind 1680", x.signed(1679), HashSigner.NONE);
    }

    private void signedIsAByte() {
        HashSigner x = Help.keyed("1 16 1 1 4 6");
        x.sign();
        for (int i = 0; i < 400; i++) {
            int b = x.signed(i);
            due.is("signed(" + i + ") is a byte", b, b & 255);
        }
    }

    /** Promise 13: "OUTSIDE: there is no such byte". */
    private void alterOutsideByte() {
        HashSigner x = signedOne();
        for (int i : Help.outside(0, SIZE - 1)) {
            due.is("alter(" + i + ", 0)", x.alter(i, 0), HashSigner.OUTSIDE);
        }
        due.is("verify() behind these", x.verify(), 1);
        due.is("told(1) behind these", x.told(1), SIZE);
    }

    private void alterOutsideWithoutSignature() {
        HashSigner x = Help.keyed(SHAPES[0]);
        for (int i = -1; i <= SIZE; i++) {
            due.is("alter(" + i + ", 0) ahead of any", x.alter(i, 0), HashSigner.OUTSIDE);
        }
        due.is("told(1) behind these", x.told(1), 0);
    }

    private void alterOutsideBehindCut() {
        HashSigner x = signedOne();
        for (int n = SIZE - 1; n >= 0; n--) {
            x.cut(n);
            due.is("alter(" + n + ", 0) behind cut(" + n + ")", x.alter(n, 0), HashSigner.OUTSIDE);
            due.is("alter(55, 0) behind cut(" + n + ")", x.alter(SIZE - 1, 0), HashSigner.OUTSIDE);
        }
    }

    /** Promise 13: "OUTSIDE: b is not 0 to 255". */
    private void alterOutsideValue() {
        HashSigner x = signedOne();
        int was = x.signed(SIZE - 1);
        for (int b : Help.outside(0, 255)) {
            due.is("alter(55, " + b + ")", x.alter(SIZE - 1, b), HashSigner.OUTSIDE);
        }
        due.is("signed(55) behind these", x.signed(SIZE - 1), was);
        due.is("verify() behind these", x.verify(), 1);
    }

    /** Promise 13: "Byte i of THE SIGNATURE becomes b: what it was", of each byte b and at both ends. */
    private void alterTellsWhatItWas() {
        for (int i : new int[] {0, SIZE - 1}) {
            HashSigner x = signedOne();
            int first = x.signed(i);
            int was = first;
            for (int b = 0; b <= 255; b++) {
                due.is("alter(" + i + ", " + b + ")", x.alter(i, b), was);
                was = b;
            }
            due.is("signed(" + i + ")", x.signed(i), 255);
            due.is("alter(" + i + ", ..) back", x.alter(i, first), 255);
            due.is("alter(" + i + ", ..) to what it is", x.alter(i, first), first);
            due.is("verify() behind alters", x.verify(), 1);
        }
    }

    private void alterNeedsNoKey() {
        HashSigner x = signedOne();
        int was = x.signed(9);
        x.seed(0, 0, 0);
        due.is("alter(9, 3) with no KEY", x.alter(9, 3), was);
        due.is("signed(9) with no KEY", x.signed(9), 3);
    }

    /** Promise 14: "OUTSIDE: n is below 0". */
    private void cutBelowZero() {
        HashSigner x = signedOne();
        for (int n : new int[] {-1, -2, -SIZE, -256, -65536, Integer.MIN_VALUE}) {
            due.is("cut(" + n + ")", x.cut(n), HashSigner.OUTSIDE);
        }
        due.is("verify() behind these", x.verify(), 1);
    }

    /** Promise 14: "OUTSIDE: n is above what it has", also where it had as many once. */
    private void cutAboveWhatItHas() {
        HashSigner x = signedOne();
        for (int n : new int[] {SIZE + 1, SIZE + 256, 1680, SIZE + 65536, Integer.MAX_VALUE}) {
            due.is("cut(" + n + ")", x.cut(n), HashSigner.OUTSIDE);
        }
        due.is("verify() behind these", x.verify(), 1);
        x.cut(20);
        due.is("cut(21) of 20", x.cut(21), HashSigner.OUTSIDE);
        due.is("cut(56) of 20", x.cut(SIZE), HashSigner.OUTSIDE);
        due.is("told(1) behind these", x.told(1), 20);
    }

    /** Promise 14: all of it goes. */
    private void cutOfAll() {
        HashSigner x = signedOne();
        due.is("cut(0)", x.cut(0), SIZE);
        due.is("told(1) behind cut(0)", x.told(1), 0);
        due.is("signed(0) behind cut(0)", x.signed(0), HashSigner.NONE);
        due.is("cut(0) again", x.cut(0), 0);
        due.is("cut(1) behind cut(0)", x.cut(1), HashSigner.OUTSIDE);
    }

    /** Promise 14: nothing of it goes. */
    private void cutOfNothing() {
        HashSigner x = signedOne();
        String bytes = Help.signature(x);
        due.is("cut(56)", x.cut(SIZE), 0);
        due.is("told(1) behind cut(56)", x.told(1), SIZE);
        due.is("the bytes behind cut(56)", Help.signature(x), bytes);
        due.is("verify() behind cut(56)", x.verify(), 1);
    }

    private void cutWithoutSignature() {
        HashSigner x = Help.keyed(SHAPES[0]);
        due.is("cut(0) ahead of any", x.cut(0), 0);
        due.is("cut(1) ahead of any", x.cut(1), HashSigner.OUTSIDE);
        due.is("cut(56) ahead of any", x.cut(SIZE), HashSigner.OUTSIDE);
        due.is("cut(-1) ahead of any", x.cut(-1), HashSigner.OUTSIDE);
    }

    /** Promise 14: "keeps its first n bytes: how many went". */
    private void cutKeepsTheFirst() {
        String bytes = Help.signature(signedOne());
        for (int n = 0; n <= SIZE; n++) {
            HashSigner x = signedOne();
            due.is("cut(" + n + ")", x.cut(n), SIZE - n);
            due.is("told(1) behind cut(" + n + ")", x.told(1), n);
            due.is("the bytes behind cut(" + n + ")", Help.signature(x), bytes.substring(0, 2 * n));
        }
        HashSigner x = signedOne();
        x.cut(30);
        due.is("cut(10) of 30", x.cut(10), 20);
    }

    private void cutNeedsNoKey() {
        HashSigner x = signedOne();
        x.seed(0, 0, 0);
        due.is("cut(9) with no KEY", x.cut(9), SIZE - 9);
        due.is("told(1) with no KEY", x.told(1), 9);
    }
}
