import java.security.MessageDigest;
import java.security.NoSuchAlgorithmException;

/** What several tests do with an object. */
final class Help {
    private Help() {
    }

    /** The text of so many bytes that the known answers were made of. */
    static byte[] text(int length) {
        byte[] text = new byte[length];
        for (int t = 0; t < length; t++) {
            text[t] = (byte) (t * 37 + 11 + t / 256);
        }
        return text;
    }

    /** An empty tape becomes that text. */
    static void feedText(HashSigner x, int length) {
        byte[] text = text(600);
        for (int at = 0; at < length; at += 20) {
            x.feed(word(text, at), word(text, at + 4), word(text, at + 8), word(text, at + 12), word(text, at + 16));
        }
        x.trim(length);
    }

    private static int word(byte[] text, int at) {
        return text[at] << 24 | (text[at + 1] & 255) << 16 | (text[at + 2] & 255) << 8 | text[at + 3] & 255;
    }

    static int shape(HashSigner x, String six) {
        int[] s = numbers(six);
        return x.shape(s[0], s[1], s[2], s[3], s[4], s[5]);
    }

    static int[] numbers(String spaced) {
        String[] parts = spaced.split(" ");
        int[] numbers = new int[parts.length];
        for (int i = 0; i < parts.length; i++) {
            numbers[i] = Integer.parseInt(parts[i]);
        }
        return numbers;
    }

    static void seeds(HashSigner x, String threeHex) {
        String[] parts = threeHex.split(" ");
        for (int i = 0; i < 3; i++) {
            x.seed(i, high(parts[i]), low(parts[i]));
        }
    }

    static long high(String hex) {
        return Long.parseUnsignedLong(hex.substring(0, 16), 16);
    }

    static long low(String hex) {
        return Long.parseUnsignedLong(hex.substring(16, 32), 16);
    }

    static String hashed(HashSigner x) {
        StringBuilder hex = new StringBuilder();
        for (int i = 0; x.hashByte(i) != HashSigner.NONE; i++) {
            hex.append(twoDigits(x.hashByte(i)));
        }
        return hex.toString();
    }

    static String root(HashSigner x) {
        StringBuilder hex = new StringBuilder();
        for (int i = 0; x.root(i) != HashSigner.NONE; i++) {
            hex.append(twoDigits(x.root(i)));
        }
        return hex.toString();
    }

    static String led(HashSigner x) {
        StringBuilder hex = new StringBuilder();
        for (int i = 0; x.ledTo(i) != HashSigner.NONE; i++) {
            hex.append(twoDigits(x.ledTo(i)));
        }
        return hex.toString();
    }

    static String leaf(HashSigner x, int layer, int tree, int u) {
        StringBuilder hex = new StringBuilder();
        for (int i = 0; x.leaf(layer, tree, u, i) != HashSigner.NONE; i++) {
            hex.append(twoDigits(x.leaf(layer, tree, u, i)));
        }
        return hex.toString();
    }

    static String index(HashSigner x) {
        StringBuilder numbers = new StringBuilder();
        for (int i = 0; x.index(i) != HashSigner.NONE; i++) {
            numbers.append(i == 0 ? "" : " ").append(x.index(i));
        }
        return numbers.toString();
    }

    /** A slice of THE SIGNATURE: few enough bytes to stay below an object's 512 calls. */
    static byte[] signatureSlice(HashSigner x, int from, int to) {
        byte[] bytes = new byte[to - from];
        for (int i = 0; i < bytes.length; i++) {
            bytes[i] = (byte) x.signed(from + i);
        }
        return bytes;
    }

    static String twoDigits(int b) {
        return String.format("%02x", b);
    }

    static String hex(byte[] bytes) {
        StringBuilder hex = new StringBuilder();
        for (byte b : bytes) {
            hex.append(twoDigits(b & 255));
        }
        return hex.toString();
    }

    static byte[] sha256(byte[] bytes) {
        try {
            return MessageDigest.getInstance("SHA-256").digest(bytes);
        } catch (NoSuchAlgorithmException e) {
            throw new IllegalStateException(e);
        }
    }
}
