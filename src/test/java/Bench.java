import java.util.stream.IntStream;

/** What the tests share: tapes of known bytes, objects made ready, and a look at all that can be seen of one. */
final class Bench {
    static final int MIN = Integer.MIN_VALUE;
    static final int MAX = Integer.MAX_VALUE;

    private Bench() {
    }

    /** Word k of the tape that feed(x, salt, ..) lays. */
    static int word(int salt, int k) {
        return (k + 1) * 0x9E3779B1 + salt * 0x85EBCA77;
    }

    static void feed(LeafSigner x, int salt, int times) {
        for (int t = 0; t < times; t++) {
            int k = 5 * t;
            x.feed(word(salt, k), word(salt, k + 1), word(salt, k + 2), word(salt, k + 3), word(salt, k + 4));
        }
    }

    static byte[] bytes(int salt, int n) {
        byte[] row = new byte[n];
        for (int k = 0; k < n; k++) {
            row[k] = (byte) (word(salt, k / 4) >>> (24 - 8 * (k % 4)));
        }
        return row;
    }

    static void giveKeys(LeafSigner x, int salt) {
        feed(x, salt, 5);
        if (!x.keys()) {
            throw new IllegalStateException("no keys of a tape of 100 bytes");
        }
    }

    /** The keys of giveKeys, but for the lowest bit of the byte at a place of the tape. */
    static void giveChangedKeys(LeafSigner x, int salt, int place) {
        int[] words = new int[25];
        for (int k = 0; k < 25; k++) {
            words[k] = word(salt, k) ^ (place / 4 == k ? 1 << (24 - 8 * (place % 4)) : 0);
        }
        for (int k = 0; k < 25; k += 5) {
            x.feed(words[k], words[k + 1], words[k + 2], words[k + 3], words[k + 4]);
        }
        x.keys();
    }

    static LeafSigner keyed(int height, int reserve, int salt) {
        LeafSigner x = new LeafSigner(height, reserve);
        giveKeys(x, salt);
        return x;
    }

    static Rfc rfc(int height, int salt) {
        return new Rfc(height, bytes(salt, 96));
    }

    static void signTimes(LeafSigner x, int times) {
        for (int t = 0; t < times; t++) {
            x.sign(0);
        }
    }

    static String disk(LeafSigner x) {
        StringBuilder text = new StringBuilder();
        for (int k = 0; k < 24; k++) {
            text.append(k % 4 == 0 && k > 0 ? " " : "").append(hex(x.disk(k)));
        }
        return text.toString();
    }

    /** The text that disk(x) has if its six words are these. */
    static String words(int... words) {
        StringBuilder text = new StringBuilder();
        for (int k = 0; k < words.length; k++) {
            text.append(k > 0 ? " " : "").append(String.format("%08x", words[k]));
        }
        return text.toString();
    }

    static String leaves(LeafSigner x) {
        StringBuilder text = new StringBuilder();
        int count = 1 << x.about(10);
        for (int i = 0; i < count; i++) {
            text.append(hex(x.leaf(i)).charAt(1));
        }
        return text.toString();
    }

    static String about(LeafSigner x) {
        StringBuilder text = new StringBuilder();
        for (int what = 0; what < 12; what++) {
            text.append(what > 0 ? " " : "").append(x.about(what));
        }
        return text.toString();
    }

    static String out(LeafSigner x) {
        StringBuilder text = new StringBuilder();
        for (int k : places(x.about(8))) {
            text.append(hex(x.out(k)));
        }
        return text.toString();
    }

    static String held(LeafSigner x) {
        StringBuilder text = new StringBuilder();
        for (int k : places(x.about(9))) {
            text.append(hex(x.alter(k, 0)));
        }
        return text.toString();
    }

    /** The text that out(x) has if OUT is this row. */
    static String some(byte[] row) {
        StringBuilder text = new StringBuilder();
        for (int k : places(row.length)) {
            text.append(hex(row[k] & 255));
        }
        return text.toString();
    }

    /**
     * Some places of a signature of so many bytes: of the leaf, the random value, every sixth part, and each node
     * beside the way. Another message, leaf or key changes most of them; all of them would take too many calls.
     */
    private static int[] places(int size) {
        IntStream.Builder places = IntStream.builder();
        for (int k : new int[] {0, 1, 2, 3, 4, 35}) {
            places.add(k);
        }
        for (int part = 0; part < 67; part += 6) {
            places.add(36 + 32 * part + part % 32);
        }
        for (int k = 2180; k < size; k += 33) {
            places.add(k);
        }
        return size == 0 ? new int[0] : places.build().toArray();
    }

    static String root(LeafSigner x) {
        int height = x.about(10);
        StringBuilder text = new StringBuilder();
        for (int k = 0; k < 32; k++) {
            text.append(hex(x.node(height, 0, k)));
        }
        return text.toString();
    }

    static String hex(byte[] row) {
        StringBuilder text = new StringBuilder();
        for (byte b : row) {
            text.append(hex(b & 255));
        }
        return text.toString();
    }

    /** All that can be seen, but for the bytes on the tape: those show only in what is made of them. */
    static String seen(LeafSigner x) {
        return String.join("\n", about(x), disk(x), leaves(x), out(x), held(x), root(x));
    }

    private static String hex(int value) {
        return value < 0 ? "--" : String.format("%02x", value);
    }
}
