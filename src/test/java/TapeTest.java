/** Promises 1 to 5: a new object, the tape, its hashes. */
public final class TapeTest {
    /** How long the text is, its HASH 0 and HASH 1, made outside of Java. */
    private static final String[][] HASHES = {
        {"0", "e3b0c44298fc1c149afbf4c8996fb92427ae41e4649b934ca495991b7852b855", "46b9dd2b0ba88d13233b3feb743eeb243fcd52ea62b81b82b50c27646ed5762f"},
        {"1", "e7cf46a078fed4fafd0b5e3aff144802b853f8ae459a4f0c14add3314b7cc3a6", "eff575e75502a07a1dcf57937dfd53a90073659eededed0b7e6f6ebb886d39ad"},
        {"55", "2900465fcb533e05a158fd2b3be0e5e3b03740d83060aa3580e0d98a96bf2384", "ca554990b6ab66752f72d17d9c4eb7ada7d4c8a2ceed2f94c7f19927184141c7"},
        {"56", "31454ff48ef36af2f08fd511bdc37d9d5855ac23e992e5ff5445cb6b7674a674", "fc13c2f5cf6ec7e19bd14514413b4f6c11f1d4fdb5b480d3801fde34ef564950"},
        {"63", "5f6401b96532c36de4e65beec0409b69b1d181864c8009b7a04f43e5d56350d1", "baf884fcd2fb52c2ec5b444e85a12734c803e66f6f054e55a072122dc5328ee9"},
        {"64", "94eb5de4943613fd048dc93393ab06877405faa39c11f53e9386083339833e7e", "f2fd912ca758c35cda63affe4d40b705b31c781885c0c4446263a4ef1ffbf42f"},
        {"119", "b0dc41b1a384e2f1203f0351b38fbeaafceef577ce1191d5bfc25da39f721eae", "ae0a0506b1da4f0f2d438b85cbe84fc8103c3f8f018831d01538b0842302976d"},
        {"120", "5df24dd802ac26132ce608dcb5f09841eef039ee0f152acf98d26d17fe4e88e6", "d463f4fb8037372464983cc9e2edeee8e5d25bf1db43a88804e3ff6c360866fc"},
        {"135", "04334c8eae2c6af8053fe8b44325a6d5354f0e3baac1881681e425acc58c4ac4", "8718c5da8c17af4eddafe058d4d6cdb76d17fed735aea8367049bd5cf34fc69c"},
        {"136", "ffaf7a9992cb4e7b6dd67667c96d176e4f228ac4276857f740ed4b6e98cadf7c", "579616897b9db8dc567cd07f9b81d4e4a2d823203b5ae45e9d285fd909705860"},
        {"137", "bc3e21f61bdc9dd0975ae1a98ead6c60c61ae958fdeb94770ab5d44c487667eb", "59df4c6a3829eaceca408cdbab359adc237e09090b085c98709ba7424cfe72a5"},
        {"271", "59bf7a6f3d653e7e1226034d95f19d79295d4778983900c8284d5876441a1e61", "6a15047c5916c2c540238cb42c5ef9021344953299bedf5ca093b153ad245045"},
        {"272", "1abf2f371a42478949bdc40456d20ce7f7d39156fccfaec3f4bfe898c3b3ad60", "dcd4b90f81315b9557a946163a6bae98fbd3ae64982d76a7eac56d5f32d147f5"},
        {"600", "4a9c13f1fcce2cdca2e60f528fae876bec0532dfc642b14e82d2583f861ee2dd", "9006e44a1603aa6b2629c78d2917216a47cc8e1ee2a5be53374b09db8fe0bf0d"},
    };

    private final Due due = new Due();

    public static void main(String[] args) {
        TapeTest test = new TapeTest();
        test.newObject();
        test.feed();
        test.feedAtTheEnd();
        test.trim();
        test.hashesKnown();
        test.hashesOfEveryLength();
        test.hashRefuses();
        test.hashIsKept();
        test.due.end();
    }

    private void newObject() {
        HashSigner x = new HashSigner();
        int[] told = {0, 0, 56, 10, 4, 0};
        for (int i = 0; i < told.length; i++) {
            due.is("new: told(" + i + ")", x.told(i), told[i]);
        }
        due.is("new: hashByte(0)", x.hashByte(0), HashSigner.NONE);
        due.is("new: root(0)", x.root(0), HashSigner.NONE);
        due.is("new: signed(0)", x.signed(0), HashSigner.NONE);
        due.is("new: ledTo(0)", x.ledTo(0), HashSigner.NONE);
        due.is("new: index(0)", x.index(0), HashSigner.NONE);
        due.is("new: sign()", x.sign(), HashSigner.STATE);
        HashSigner same = new HashSigner();
        Help.shape(same, "0 4 1 1 1 1");
        Help.seeds(same, "0".repeat(32) + " " + "0".repeat(32) + " " + "0".repeat(32));
        x.key();
        same.key();
        x.sign();
        same.sign();
        due.is("new: its root", Help.root(x), Help.root(same));
        due.is("new: its signature", Help.hex(Help.signatureSlice(x, 0, 56)),
            Help.hex(Help.signatureSlice(same, 0, 56)));
    }

    private void feed() {
        HashSigner x = new HashSigner();
        due.is("feed", x.feed(0x01020304, -1, 0, Integer.MIN_VALUE, Integer.MAX_VALUE), 20);
        byte[] tape = {1, 2, 3, 4, -1, -1, -1, -1, 0, 0, 0, 0, -128, 0, 0, 0, 127, -1, -1, -1};
        x.hash(0);
        due.is("feed: the bytes", Help.hashed(x), Help.hex(Help.sha256(tape)));
    }

    private void feedAtTheEnd() {
        HashSigner x = new HashSigner();
        for (int i = 1; i <= 30; i++) {
            due.is("feed " + i, x.feed(i, i, i, i, i), 20 * i);
        }
        x.hash(0);
        String full = Help.hashed(x);
        due.is("feed at 600", x.feed(1, 2, 3, 4, 5), HashSigner.FULL);
        due.is("told(0) at 600", x.told(0), 600);
        x.hash(0);
        due.is("FULL changes nothing", Help.hashed(x), full);
        x.trim(581);
        due.is("feed at 581", x.feed(1, 2, 3, 4, 5), HashSigner.FULL);
        due.is("told(0) at 581", x.told(0), 581);
        x.trim(580);
        due.is("feed at 580", x.feed(1, 2, 3, 4, 5), 600);
    }

    private void trim() {
        HashSigner x = new HashSigner();
        due.is("trim(0) of none", x.trim(0), 0);
        due.is("trim(1) of none", x.trim(1), HashSigner.OUTSIDE);
        Help.feedText(x, 40);
        due.is("trim(40) of 40", x.trim(40), 40);
        due.is("trim(41) of 40", x.trim(41), HashSigner.OUTSIDE);
        due.is("trim(-1)", x.trim(-1), HashSigner.OUTSIDE);
        due.is("trim(least)", x.trim(Integer.MIN_VALUE), HashSigner.OUTSIDE);
        due.is("trim(most)", x.trim(Integer.MAX_VALUE), HashSigner.OUTSIDE);
        due.is("told(0) behind refusals", x.told(0), 40);
        due.is("trim(7)", x.trim(7), 7);
        due.is("told(0) behind trim(7)", x.told(0), 7);
        x.hash(0);
        due.is("trim keeps the first", Help.hashed(x), Help.hex(Help.sha256(Help.text(7))));
        due.is("feed behind trim", x.feed(0, 0, 0, 0, 0), 27);
    }

    private void hashesKnown() {
        for (String[] row : HASHES) {
            HashSigner x = new HashSigner();
            Help.feedText(x, Integer.parseInt(row[0]));
            due.is("hash(0) of " + row[0], x.hash(0), 32);
            due.is("HASH 0 of " + row[0], Help.hashed(x), row[1]);
            due.is("hash(1) of " + row[0], x.hash(1), 32);
            due.is("HASH 1 of " + row[0], Help.hashed(x), row[2]);
        }
    }

    private void hashesOfEveryLength() {
        for (int length = 0; length <= 600; length++) {
            HashSigner x = new HashSigner();
            Help.feedText(x, length);
            x.hash(0);
            due.is("HASH 0 of " + length, Help.hashed(x), Help.hex(Help.sha256(Help.text(length))));
            x.hash(1);
            due.is("HASH 1 of " + length, Help.hashed(x), Help.hex(Model.hashOne(Help.text(length))));
            due.is("told(0) behind hashes of " + length, x.told(0), length);
        }
    }

    private void hashRefuses() {
        HashSigner x = new HashSigner();
        x.hash(1);
        String kept = Help.hashed(x);
        x.feed(1, 2, 3, 4, 5);
        for (int form : new int[] {-1, 2, Integer.MIN_VALUE, Integer.MAX_VALUE}) {
            due.is("hash(" + form + ")", x.hash(form), HashSigner.OUTSIDE);
        }
        due.is("a refused hash changes nothing", Help.hashed(x), kept);
    }

    private void hashIsKept() {
        HashSigner x = new HashSigner();
        x.hash(0);
        String kept = Help.hashed(x);
        x.feed(1, 2, 3, 4, 5);
        x.trim(3);
        x.shape(1, 8, 2, 2, 2, 2);
        x.seed(2, 5, 5);
        x.key();
        x.sign();
        x.verify();
        due.is("the HASH kept behind other calls", Help.hashed(x), kept);
        for (int i : new int[] {-1, 32, 33, Integer.MIN_VALUE, Integer.MAX_VALUE}) {
            due.is("hashByte(" + i + ")", x.hashByte(i), HashSigner.NONE);
        }
    }
}
