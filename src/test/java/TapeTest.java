import java.nio.ByteBuffer;
import java.util.Arrays;

/** Promises 1 to 5: a new object, the tape, its hashes. */
public final class TapeTest {
    /** How long the text is, its HASH 0 and HASH 1, made outside of Java. */
    private static final String[][] HASHES = {
        {"0", "e3b0c44298fc1c149afbf4c8996fb92427ae41e4649b934ca495991b7852b855", "46b9dd2b0ba88d13233b3feb743eeb243fcd52ea62b81b82b50c27646ed5762f"},
        {"1", "e7cf46a078fed4fafd0b5e3aff144802b853f8ae459a4f0c14add3314b7cc3a6", "eff575e75502a07a1dcf57937dfd53a90073659eededed0b7e6f6ebb886d39ad"},
        {"55", "2900465fcb533e05a158fd2b3be0e5e3b03740d83060aa3580e0d98a96bf2384", "ca554990b6ab66752f72d17d9c4eb7ada7d4c8a2ceed2f94c7f19927184141c7"},
        {"56", "31454ff48ef36af2f08fd511bdc37d9d5855ac23e992e5ff5445cb6b7674a674", "fc13c2f5cf6ec7e19bd14514413b4f6c11f1d4fdb5b480d3801fde34ef564950"},
        {"63", "5f6401b96532c36de4e65beec0409b69b1d181864c8009b7a04f43e5d56350d1", "baf884fcd2fb52c2ec5b444e85a12734c803e66f6f054e55a072122dc5328ee9"},
        {"64", "94eb5de4943613fd048dc93393ab06877405faa39c11f53e9386083339833e7e", "f2fd912ca758c35cda63affe4d40b705b31c781885c0c4446263a4ef1ffbf42f"},
        {"119", "b0dc41b1a384e2f1203f0351b38fbeaafceef577ce1191d5bfc25da39f721eae", "ae0a0506b1da4f0f2d438b85cbe84fc8103c3f8f018831d01538b0842302976d"},
        {"120", "5df24dd802ac26132ce608dcb5f09841eef039ee0f152acf98d26d17fe4e88e6", "d463f4fb8037372464983cc9e2edeee8e5d25bf1db43a88804e3ff6c360866fc"},
        {"135", "04334c8eae2c6af8053fe8b44325a6d5354f0e3baac1881681e425acc58c4ac4", "8718c5da8c17af4eddafe058d4d6cdb76d17fed735aea8367049bd5cf34fc69c"},
        {"136", "ffaf7a9992cb4e7b6dd67667c96d176e4f228ac4276857f740ed4b6e98cadf7c", "579616897b9db8dc567cd07f9b81d4e4a2d823203b5ae45e9d285fd909705860"},
        {"137", "bc3e21f61bdc9dd0975ae1a98ead6c60c61ae958fdeb94770ab5d44c487667eb", "59df4c6a3829eaceca408cdbab359adc237e09090b085c98709ba7424cfe72a5"},
        {"271", "59bf7a6f3d653e7e1226034d95f19d79295d4778983900c8284d5876441a1e61", "6a15047c5916c2c540238cb42c5ef9021344953299bedf5ca093b153ad245045"},
        {"272", "1abf2f371a42478949bdc40456d20ce7f7d39156fccfaec3f4bfe898c3b3ad60", "dcd4b90f81315b9557a946163a6bae98fbd3ae64982d76a7eac56d5f32d147f5"},
        {"600", "4a9c13f1fcce2cdca2e60f528fae876bec0532dfc642b14e82d2583f861ee2dd", "9006e44a1603aa6b2629c78d2917216a47cc8e1ee2a5be53374b09db8fe0bf0d"},
    };

    private final Due due = new Due();

    public static void main(String[] args) {
        TapeTest test = new TapeTest();
        test.newObjectHasNothing();
        test.newObjectHasTheShapeAndSeedsAsTold();
        test.objectsShareNothing();
        test.feedHasTheHighestByteFirst();
        test.feedComesBehind();
        test.feedFull();
        test.trimKeepsTheFirst();
        test.trimBelowZero();
        test.trimAboveWhatItHas();
        test.trimToNothingAndToAll();
        test.tapeOutlivesOtherCalls();
        test.hashOutsideForm();
        test.hashOfAnEmptyTape();
        test.hashOfAFullTape();
        test.hashesKnown();
        test.hashesOfEveryLength();
        test.hashByteNone();
        test.hashByteIsKept();
        test.due.end();
    }

    /** Promise 1: "an empty TAPE, no KEY, no SIGNATURE". */
    private void newObjectHasNothing() {
        HashSigner x = new HashSigner();
        int[] told = {0, 0, 56, 10, 4, 0};
        for (int i = 0; i < told.length; i++) {
            due.is("new: told(" + i + ")", x.told(i), told[i]);
        }
        due.is("new: hashByte(0)", x.hashByte(0), HashSigner.NONE);
        due.is("new: root(0)", x.root(0), HashSigner.NONE);
        due.is("new: signed(0)", x.signed(0), HashSigner.NONE);
        due.is("new: ledTo(0)", x.ledTo(0), HashSigner.NONE);
        due.is("new: index(0)", x.index(0), HashSigner.NONE);
        due.is("new: trim(1)", x.trim(1), HashSigner.OUTSIDE);
        due.is("new: cut(1)", x.cut(1), HashSigner.OUTSIDE);
        due.is("new: alter(0, 0)", x.alter(0, 0), HashSigner.OUTSIDE);
        due.is("new: sign()", x.sign(), HashSigner.STATE);
        due.is("new: signWith(0, 0)", x.signWith(0, 0), HashSigner.STATE);
        due.is("new: verify()", x.verify(), HashSigner.STATE);
    }

    /** Promise 1: "THE SHAPE and SEEDS as told". */
    private void newObjectHasTheShapeAndSeedsAsTold() {
        HashSigner same = new HashSigner();
        Help.shape(same, "0 4 1 1 1 1");
        Help.seeds(same, "0".repeat(32) + " " + "0".repeat(32) + " " + "0".repeat(32));
        due.is("new: all of it", Help.picture(new HashSigner()), Help.picture(same));
    }

    /** Promise 1: a new object is new, whatever was done with another one. */
    private void objectsShareNothing() {
        String picture = Help.picture(new HashSigner());
        HashSigner other = new HashSigner();
        HashSigner older = new HashSigner();
        Help.shape(other, "0 4 1 1 2 2");
        other.seed(0, 1, 2);
        other.seed(1, 3, 4);
        other.seed(2, 5, 6);
        other.feed(1, 2, 3, 4, 5);
        other.hash(0);
        other.key();
        other.sign();
        other.verify();
        due.is("new behind another one: all of it", Help.picture(new HashSigner()), picture);
        due.is("new ahead of another one: all of it", Help.picture(older), picture);
    }

    /** Promise 2: "of each number the highest first". */
    private void feedHasTheHighestByteFirst() {
        HashSigner x = new HashSigner();
        due.is("feed", x.feed(0x01020304, -1, 0, Integer.MIN_VALUE, Integer.MAX_VALUE), 20);
        byte[] tape = {1, 2, 3, 4, -1, -1, -1, -1, 0, 0, 0, 0, -128, 0, 0, 0, 127, -1, -1, -1};
        x.hash(0);
        due.is("feed: the bytes", Help.hashed(x), Help.hex(Help.sha256(tape)));
    }

    /** Promise 2: "come behind THE TAPE": behind each length that still has room. */
    private void feedComesBehind() {
        for (int length = 0; length <= 580; length++) {
            HashSigner x = new HashSigner();
            Help.feedText(x, length);
            due.is("feed behind " + length, x.feed(-1, 0, 1, -2, 3), length + 20);
            due.is("told(0) behind that", x.told(0), length + 20);
            byte[] tape = Arrays.copyOf(Help.text(length), length + 20);
            ByteBuffer.wrap(tape, length, 20).putInt(-1).putInt(0).putInt(1).putInt(-2).putInt(3);
            x.hash(0);
            due.is("the bytes behind " + length, Help.hashed(x), Help.hex(Help.sha256(tape)));
        }
    }

    /** Promise 2: "FULL": wherever twenty bytes more would be above 600. */
    private void feedFull() {
        for (int length = 581; length <= 600; length++) {
            HashSigner x = new HashSigner();
            Help.feedText(x, length);
            due.is("feed at " + length, x.feed(1, 2, 3, 4, 5), HashSigner.FULL);
            due.is("told(0) at " + length, x.told(0), length);
            x.hash(0);
            due.is("the text of " + length + " behind FULL", Help.hashed(x), Help.hex(Help.sha256(Help.text(length))));
            x.trim(580);
            due.is("feed at 580 behind FULL", x.feed(1, 2, 3, 4, 5), 600);
        }
    }

    /** Promise 3: "THE TAPE keeps its first n bytes: n". */
    private void trimKeepsTheFirst() {
        for (int length = 600; length >= 0; length--) {
            HashSigner x = new HashSigner();
            Help.feedText(x, 600);
            due.is("trim(" + length + ")", x.trim(length), length);
            due.is("told(0) behind trim(" + length + ")", x.told(0), length);
            x.hash(0);
            due.is("the bytes behind trim(" + length + ")", Help.hashed(x), Help.hex(Help.sha256(Help.text(length))));
        }
    }

    /** Promise 3: "OUTSIDE: n is below 0". */
    private void trimBelowZero() {
        HashSigner x = new HashSigner();
        due.is("trim(-1) of none", x.trim(-1), HashSigner.OUTSIDE);
        Help.feedText(x, 40);
        for (int n : new int[] {-1, -2, -40, -256, Integer.MIN_VALUE}) {
            due.is("trim(" + n + ")", x.trim(n), HashSigner.OUTSIDE);
        }
        due.is("told(0) behind these", x.told(0), 40);
    }

    /** Promise 3: "OUTSIDE: n is above what it has", also where it had as many once. */
    private void trimAboveWhatItHas() {
        HashSigner x = new HashSigner();
        due.is("trim(1) of none", x.trim(1), HashSigner.OUTSIDE);
        Help.feedText(x, 40);
        for (int n : new int[] {41, 60, 600, 601, 40 + 256, 40 + 65536, Integer.MAX_VALUE}) {
            due.is("trim(" + n + ") of 40", x.trim(n), HashSigner.OUTSIDE);
        }
        due.is("told(0) behind these", x.told(0), 40);
        x.trim(7);
        due.is("trim(8) of 7", x.trim(8), HashSigner.OUTSIDE);
        due.is("trim(40) of 7", x.trim(40), HashSigner.OUTSIDE);
        due.is("told(0) behind these", x.told(0), 7);
    }

    /** Promise 3: the edges that are not OUTSIDE. */
    private void trimToNothingAndToAll() {
        HashSigner x = new HashSigner();
        due.is("trim(0) of none", x.trim(0), 0);
        Help.feedText(x, 600);
        due.is("trim(600) of 600", x.trim(600), 600);
        due.is("trim(0) of 600", x.trim(0), 0);
        due.is("trim(0) of 0", x.trim(0), 0);
        due.is("feed behind trim(0)", x.feed(1, 2, 3, 4, 5), 20);
    }

    /** THE TAPE stays as it is behind calls that do not tell of it. */
    private void tapeOutlivesOtherCalls() {
        HashSigner x = new HashSigner();
        Help.feedText(x, 77);
        x.hash(1);
        Help.shape(x, "1 16 2 2 4 6");
        x.seed(2, 5, 5);
        x.key();
        x.signWith(1, 2);
        x.alter(0, 0);
        x.verify();
        x.cut(0);
        Help.shape(x, "0 4 1 1 1 1");
        due.is("told(0) behind other calls", x.told(0), 77);
        x.hash(0);
        due.is("the text behind other calls", Help.hashed(x), Help.hex(Help.sha256(Help.text(77))));
    }

    /** Promise 4: "OUTSIDE: form". */
    private void hashOutsideForm() {
        HashSigner x = new HashSigner();
        for (int form : Help.outside(0, 1)) {
            due.is("hash(" + form + ")", x.hash(form), HashSigner.OUTSIDE);
        }
        due.is("hashByte(0) behind refused ones alone", x.hashByte(0), HashSigner.NONE);
        x.hash(1);
        String kept = Help.hashed(x);
        x.feed(1, 2, 3, 4, 5);
        for (int form : Help.outside(0, 1)) {
            due.is("hash(" + form + ")", x.hash(form), HashSigner.OUTSIDE);
        }
        due.is("the HASH behind refused ones", Help.hashed(x), kept);
    }

    /** Promise 4 of an empty TAPE: one that never had a byte, and one that has none any more. */
    private void hashOfAnEmptyTape() {
        HashSigner x = new HashSigner();
        holdHashes(x, HASHES[0]);
        Help.feedText(x, 600);
        x.trim(0);
        holdHashes(x, HASHES[0]);
    }

    /** Promise 4 of a full TAPE, again and again. */
    private void hashOfAFullTape() {
        HashSigner x = new HashSigner();
        Help.feedText(x, 600);
        for (int i = 0; i < 3; i++) {
            holdHashes(x, HASHES[HASHES.length - 1]);
        }
        due.is("told(0) behind hashes of a full TAPE", x.told(0), 600);
    }

    private void hashesKnown() {
        for (String[] row : HASHES) {
            HashSigner x = new HashSigner();
            Help.feedText(x, Integer.parseInt(row[0]));
            holdHashes(x, row);
        }
    }

    private void holdHashes(HashSigner x, String[] row) {
        due.is("hash(0) of " + row[0], x.hash(0), 32);
        due.is("HASH 0 of " + row[0], Help.hashed(x), row[1]);
        due.is("hash(1) of " + row[0], x.hash(1), 32);
        due.is("HASH 1 of " + row[0], Help.hashed(x), row[2]);
    }

    private void hashesOfEveryLength() {
        for (int length = 0; length <= 600; length++) {
            HashSigner x = new HashSigner();
            Help.feedText(x, length);
            x.hash(0);
            due.is("HASH 0 of " + length, Help.hashed(x), Help.hex(Help.sha256(Help.text(length))));
            x.hash(1);
            due.is("HASH 1 of " + length, Help.hashed(x), Help.hex(Model.hashOne(Help.text(length))));
            due.is("told(0) behind hashes of " + length, x.told(0), length);
        }
    }

    /** Promise 5: "NONE": ahead of any hash(), below byte 0, above byte 31. */
    private void hashByteNone() {
        HashSigner x = new HashSigner();
        for (int i = -1; i <= 32; i++) {
            due.is("hashByte(" + i + ") ahead of any", x.hashByte(i), HashSigner.NONE);
        }
        x.hash(0);
        for (int i : Help.outside(0, 31)) {
            due.is("hashByte(" + i + ")", x.hashByte(i), HashSigner.NONE);
        }
        for (int i = 0; i < 32; i++) {
            due.is("hashByte(" + i + ") is a byte", x.hashByte(i) >= 0 && x.hashByte(i) <= 255 ? 1 : 0, 1);
        }
    }

    /** Promise 5: "the HASH that is kept" stays until another one is. */
    private void hashByteIsKept() {
        HashSigner x = new HashSigner();
        x.hash(0);
        String kept = Help.hashed(x);
        x.feed(1, 2, 3, 4, 5);
        x.trim(3);
        x.shape(1, 8, 2, 2, 2, 2);
        x.seed(2, 5, 5);
        x.key();
        x.sign();
        x.verify();
        x.leaf(0, 1, 1, 1);
        due.is("the HASH kept behind other calls", Help.hashed(x), kept);
        x.hash(1);
        due.is("another HASH behind hash(1)", Help.hashed(x).equals(kept) ? 1 : 0, 0);
    }
}
