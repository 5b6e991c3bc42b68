import java.io.ByteArrayOutputStream;
import java.security.MessageDigest;
import java.security.NoSuchAlgorithmException;
import java.util.ArrayDeque;
import java.util.Arrays;
import java.util.Deque;

/**
 * RFC 8391 by its own algorithms, in bytes and with the library's SHA-256: written apart from the class,
 * so that one mistake does not stand in both.
 */
final class Rfc {
    private static final int LEN = 67;
    private static final int W = 16;

    final int h;
    final byte[] s;
    final byte[] p;
    final byte[] seed;
    private final byte[][][] nodes;
    private final MessageDigest sha;

    Rfc(int h, byte[] keys) {
        this.h = h;
        s = Arrays.copyOfRange(keys, 0, 32);
        p = Arrays.copyOfRange(keys, 32, 64);
        seed = Arrays.copyOfRange(keys, 64, 96);
        try {
            sha = MessageDigest.getInstance("SHA-256");
        } catch (NoSuchAlgorithmException e) {
            throw new IllegalStateException(e);
        }
        nodes = new byte[h + 1][][];
        for (int t = 0; t <= h; t++) {
            nodes[t] = new byte[1 << (h - t)][];
        }
    }

    byte[] node(int t, int i) {
        if (nodes[t][i] == null) {
            nodes[t][i] = treeHash(i << t, t);
        }
        return nodes[t][i];
    }

    byte[] root() {
        return node(h, 0);
    }

    byte[] sign(int i, byte[] m) {
        ByteArrayOutputStream out = new ByteArrayOutputStream();
        byte[] r = prf(p, toByte(i, 32));
        out.writeBytes(toByte(i, 4));
        out.writeBytes(r);
        int[] digits = digits(messageHash(r, i, m));
        byte[][] sk = wotsKey(i);
        Adrs a = new Adrs();
        a.setType(0);
        a.set(4, i);
        for (int j = 0; j < LEN; j++) {
            a.set(5, j);
            out.writeBytes(chain(sk[j], 0, digits[j], a));
        }
        for (int t = 0; t < h; t++) {
            out.writeBytes(node(t, (i >> t) ^ 1));
        }
        return out.toByteArray();
    }

    boolean verify(byte[] sig, byte[] m) {
        if (sig.length != 2180 + 32 * h) {
            return false;
        }
        long index = 0;
        for (int k = 0; k < 4; k++) {
            index = index * 256 + (sig[k] & 255);
        }
        if (index >= (1L << h)) {
            return false;
        }
        int i = (int) index;
        int[] digits = digits(messageHash(Arrays.copyOfRange(sig, 4, 36), i, m));
        Adrs a = new Adrs();
        a.setType(0);
        a.set(4, i);
        byte[][] pk = new byte[LEN][];
        for (int j = 0; j < LEN; j++) {
            a.set(5, j);
            byte[] part = Arrays.copyOfRange(sig, 36 + 32 * j, 68 + 32 * j);
            pk[j] = chain(part, digits[j], W - 1 - digits[j], a);
        }
        a.setType(1);
        a.set(4, i);
        byte[] node = ltree(pk, a);
        a.setType(2);
        a.set(6, i);
        for (int k = 0; k < h; k++) {
            byte[] auth = Arrays.copyOfRange(sig, 2180 + 32 * k, 2212 + 32 * k);
            a.set(5, k);
            if ((i / (1 << k)) % 2 == 0) {
                a.set(6, a.get(6) / 2);
                node = randHash(node, auth, a);
            } else {
                a.set(6, (a.get(6) - 1) / 2);
                node = randHash(auth, node, a);
            }
        }
        return Arrays.equals(node, root());
    }

    /** What leaf i signs of a message: 64 digits, and behind them the three of their sum. */
    int[] messageDigits(int i, byte[] m) {
        return digits(messageHash(prf(p, toByte(i, 32)), i, m));
    }

    /** Algorithm 9, with the stack. */
    private byte[] treeHash(int start, int t) {
        Deque<byte[]> stack = new ArrayDeque<>();
        Deque<Integer> heights = new ArrayDeque<>();
        for (int i = 0; i < (1 << t); i++) {
            Adrs a = new Adrs();
            byte[] node = t == 0 ? leafNode(start, a) : node(0, start + i);
            a.setType(2);
            a.set(5, 0);
            a.set(6, start + i);
            int height = 0;
            while (!heights.isEmpty() && heights.peek() == height) {
                a.set(6, (a.get(6) - 1) / 2);
                node = randHash(stack.pop(), node, a);
                heights.pop();
                height++;
                a.set(5, height);
            }
            stack.push(node);
            heights.push(height);
        }
        return stack.pop();
    }

    private byte[] leafNode(int i, Adrs a) {
        a.setType(0);
        a.set(4, i);
        byte[][] pk = wotsKey(i);
        for (int j = 0; j < LEN; j++) {
            a.set(5, j);
            pk[j] = chain(pk[j], 0, W - 1, a);
        }
        a.setType(1);
        a.set(4, i);
        return ltree(pk, a);
    }

    private byte[][] wotsKey(int i) {
        byte[] own = prf(s, toByte(i, 32));
        byte[][] sk = new byte[LEN][];
        for (int j = 0; j < LEN; j++) {
            sk[j] = prf(own, toByte(j, 32));
        }
        return sk;
    }

    private byte[] chain(byte[] x, int i, int steps, Adrs a) {
        if (steps == 0) {
            return x;
        }
        byte[] tmp = chain(x, i, steps - 1, a);
        a.set(6, i + steps - 1);
        a.set(7, 0);
        byte[] key = prf(seed, a.bytes);
        a.set(7, 1);
        byte[] bm = prf(seed, a.bytes);
        return hash(0, key, xor(tmp, bm));
    }

    private byte[] ltree(byte[][] pk, Adrs a) {
        int len = LEN;
        a.set(5, 0);
        while (len > 1) {
            for (int i = 0; i < len / 2; i++) {
                a.set(6, i);
                pk[i] = randHash(pk[2 * i], pk[2 * i + 1], a);
            }
            if (len % 2 == 1) {
                pk[len / 2] = pk[len - 1];
            }
            len = (len + 1) / 2;
            a.set(5, a.get(5) + 1);
        }
        return pk[0];
    }

    private byte[] randHash(byte[] left, byte[] right, Adrs a) {
        a.set(7, 0);
        byte[] key = prf(seed, a.bytes);
        a.set(7, 1);
        byte[] bm0 = prf(seed, a.bytes);
        a.set(7, 2);
        byte[] bm1 = prf(seed, a.bytes);
        return hash(1, key, concat(xor(left, bm0), xor(right, bm1)));
    }

    private int[] digits(byte[] m) {
        int[] msg = new int[LEN];
        int csum = 0;
        for (int k = 0; k < 64; k++) {
            int b = m[k / 2] & 255;
            msg[k] = k % 2 == 0 ? b / 16 : b % 16;
            csum += W - 1 - msg[k];
        }
        byte[] sum = toByte(csum << 4, 2);
        for (int k = 0; k < 3; k++) {
            int b = sum[k / 2] & 255;
            msg[64 + k] = k % 2 == 0 ? b / 16 : b % 16;
        }
        return msg;
    }

    private byte[] messageHash(byte[] r, int i, byte[] m) {
        return hash(2, concat(concat(r, root()), toByte(i, 32)), m);
    }

    private byte[] prf(byte[] key, byte[] m) {
        return hash(3, key, m);
    }

    private byte[] hash(int tag, byte[] key, byte[] m) {
        sha.update(toByte(tag, 32));
        sha.update(key);
        sha.update(m);
        return sha.digest();
    }

    private static byte[] toByte(int x, int y) {
        byte[] out = new byte[y];
        for (int k = y - 1; k >= 0 && k >= y - 4; k--) {
            out[k] = (byte) x;
            x >>>= 8;
        }
        return out;
    }

    private static byte[] xor(byte[] a, byte[] b) {
        byte[] out = new byte[a.length];
        for (int k = 0; k < a.length; k++) {
            out[k] = (byte) (a[k] ^ b[k]);
        }
        return out;
    }

    private static byte[] concat(byte[] a, byte[] b) {
        byte[] out = Arrays.copyOf(a, a.length + b.length);
        System.arraycopy(b, 0, out, a.length, b.length);
        return out;
    }

    private static final class Adrs {
        final byte[] bytes = new byte[32];

        void setType(int type) {
            Arrays.fill(bytes, (byte) 0);
            set(3, type);
        }

        void set(int word, int value) {
            System.arraycopy(toByte(value, 4), 0, bytes, 4 * word, 4);
        }

        int get(int word) {
            int value = 0;
            for (int k = 0; k < 4; k++) {
                value = value << 8 | (bytes[4 * word + k] & 255);
            }
            return value;
        }
    }
}
