import java.security.MessageDigest;
import java.security.NoSuchAlgorithmException;
import java.util.HexFormat;
import java.util.Set;
import java.util.TreeSet;
import java.util.function.IntUnaryOperator;

/** What several tests do with an object. */
final class Help {
    /** The edges of all numbers, and numbers that are near to an edge when only their low bits are looked at. */
    private static final int[] FAR = {
        Integer.MIN_VALUE, Integer.MIN_VALUE + 1, Integer.MAX_VALUE, Integer.MAX_VALUE - 1, -256, 256, -65536, 65536,
        1 << 24, 1 << 30,
    };
    /** Above the most bytes that any row has. */
    private static final int ROW_END = 2000;

    /** Three rows of 16 bytes, no two of which have the same first byte. */
    static final String SEEDS =
        "00112233445566778899aabbccddeeff 0f1e2d3c4b5a69788796a5b4c3d2e1f0 fedcba98765432100123456789abcdef";
    /** How long the text of keyed() is. */
    static final int TEXT = 33;

    private Help() {
    }

    /** Numbers that are not from least to most: those beside them, far ones, and such as look like them in few bits. */
    static Set<Integer> outside(int least, int most) {
        Set<Integer> all = new TreeSet<>();
        for (int i = 1; i <= 3; i++) {
            all.add(least - i);
            all.add(most + i);
        }
        for (int far : FAR) {
            all.add(far);
            all.add(least + far);
            all.add(most + far);
        }
        all.removeIf(number -> number >= least && number <= most);
        return all;
    }

    /** The text of so many bytes that the known answers were made of. */
    static byte[] text(int length) {
        byte[] text = new byte[length];
        for (int t = 0; t < length; t++) {
            text[t] = (byte) (t * 37 + 11 + t / 256);
        }
        return text;
    }

    /** An empty tape becomes that text. */
    static void feedText(HashSigner x, int length) {
        byte[] text = text(600);
        for (int at = 0; at < length; at += 20) {
            x.feed(word(text, at), word(text, at + 4), word(text, at + 8), word(text, at + 12), word(text, at + 16));
        }
        x.trim(length);
    }

    private static int word(byte[] text, int at) {
        return text[at] << 24 | (text[at + 1] & 255) << 16 | (text[at + 2] & 255) << 8 | text[at + 3] & 255;
    }

    static int shape(HashSigner x, String six) {
        return shape(x, numbers(six));
    }

    static int shape(HashSigner x, int[] s) {
        return x.shape(s[0], s[1], s[2], s[3], s[4], s[5]);
    }

    /** An object with a shape, those seeds, a text, and the KEY of all that. */
    static HashSigner keyed(String six) {
        HashSigner x = new HashSigner();
        shape(x, six);
        seeds(x, SEEDS);
        feedText(x, TEXT);
        x.key();
        return x;
    }

    static int[] numbers(String spaced) {
        String[] parts = spaced.split(" ");
        int[] numbers = new int[parts.length];
        for (int i = 0; i < parts.length; i++) {
            numbers[i] = Integer.parseInt(parts[i]);
        }
        return numbers;
    }

    static void seeds(HashSigner x, String threeHex) {
        String[] parts = threeHex.split(" ");
        for (int i = 0; i < 3; i++) {
            seed(x, i, parts[i]);
        }
    }

    static int seed(HashSigner x, int which, String hex) {
        return x.seed(which, high(hex), low(hex));
    }

    static long high(String hex) {
        return Long.parseUnsignedLong(hex.substring(0, 16), 16);
    }

    static long low(String hex) {
        return Long.parseUnsignedLong(hex.substring(16, 32), 16);
    }

    /** A row as hex digits, up to the first byte that is not there: one call for each byte and one for the end. */
    static String row(IntUnaryOperator byteAt) {
        StringBuilder hex = new StringBuilder();
        int b = byteAt.applyAsInt(0);
        for (int i = 1; b != HashSigner.NONE && i < ROW_END; i++) {
            hex.append(twoDigits(b));
            b = byteAt.applyAsInt(i);
        }
        return hex.toString();
    }

    static String hashed(HashSigner x) {
        return row(x::hashByte);
    }

    static String root(HashSigner x) {
        return row(x::root);
    }

    /** THE SIGNATURE, where it is short enough for an object's 512 calls. */
    static String signature(HashSigner x) {
        return row(x::signed);
    }

    static String led(HashSigner x) {
        return row(x::ledTo);
    }

    static String leaf(HashSigner x, int layer, int tree, int u) {
        return row(i -> x.leaf(layer, tree, u, i));
    }

    static String index(HashSigner x) {
        StringBuilder numbers = new StringBuilder();
        int number = x.index(0);
        for (int i = 1; number != HashSigner.NONE && i < ROW_END; i++) {
            numbers.append(i == 1 ? "" : " ").append(number);
            number = x.index(i);
        }
        return numbers.toString();
    }

    /** All that can be seen of an object, and then what comes of the tape and the seeds, which can't be seen. */
    static String picture(HashSigner x) {
        StringBuilder all = new StringBuilder();
        for (int i = 0; i < 6; i++) {
            all.append(x.told(i)).append(' ');
        }
        all.append(hashed(x)).append(' ').append(root(x)).append(' ').append(signature(x)).append(' ');
        all.append(led(x)).append(' ').append(index(x)).append(' ').append(leaf(x, 0, 0, 1)).append(' ');
        all.append(x.hash(0)).append(hashed(x)).append(' ');
        all.append(x.key()).append(root(x)).append(' ');
        all.append(x.sign()).append(signature(x)).append(' ');
        return all.append(x.verify()).append(led(x)).toString();
    }

    /** A slice of THE SIGNATURE: few enough bytes to stay below an object's 512 calls. */
    static byte[] signatureSlice(HashSigner x, int from, int to) {
        byte[] bytes = new byte[to - from];
        for (int i = 0; i < bytes.length; i++) {
            bytes[i] = (byte) x.signed(from + i);
        }
        return bytes;
    }

    /** What is no byte is shown as it is, so that it differs from any byte. */
    static String twoDigits(int b) {
        return b >= 0 && b <= 255 ? HexFormat.of().toHexDigits((byte) b) : "<" + b + ">";
    }

    static String hex(byte[] bytes) {
        return HexFormat.of().formatHex(bytes);
    }

    static byte[] sha256(byte[] bytes) {
        try {
            return MessageDigest.getInstance("SHA-256").digest(bytes);
        } catch (NoSuchAlgorithmException e) {
            throw new IllegalStateException(e);
        }
    }
}
