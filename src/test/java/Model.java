import java.nio.ByteBuffer;
import java.util.Arrays;
import java.util.Set;
import java.util.TreeSet;

/** The document once more, in plain bytes and sets, to be asked the same calls as the class. */
final class Model {
    private final int height;
    private final int reserve;
    private final int leaves;
    private byte[] tape = new byte[0];
    private byte[] out = new byte[0];
    private byte[] held = new byte[0];
    private byte[] disk = new byte[24];
    private int written = 0;
    private int fuse = -1;
    private Rfc rfc = null;
    private int state = 0;
    private int next = 0;
    private int end = 0;
    private final Set<Integer> released = new TreeSet<>();
    private final Set<Integer> lost = new TreeSet<>();

    Model(int height, int reserve) {
        this.height = height < 1 ? 1 : height > 4 ? 4 : height;
        this.reserve = reserve < 1 ? 1 : reserve > 8 ? 8 : reserve;
        leaves = 1 << this.height;
    }

    int feed(int a, int b, int c, int d, int e) {
        if (tape.length + 20 > 200) {
            return -1;
        }
        ByteBuffer longer = ByteBuffer.allocate(tape.length + 20);
        longer.put(tape).putInt(a).putInt(b).putInt(c).putInt(d).putInt(e);
        tape = longer.array();
        return tape.length;
    }

    boolean keys() {
        if (tape.length < 96) {
            return false;
        }
        rfc = new Rfc(height, tape);
        tape = new byte[0];
        disk = new byte[24];
        released.clear();
        lost.clear();
        state = 1;
        next = 0;
        end = 0;
        return true;
    }

    int sign(int n) {
        if (n < 0 || n > tape.length) {
            return -2;
        }
        if (state != 1) {
            return -3;
        }
        byte[] message = Arrays.copyOf(tape, n);
        tape = new byte[0];
        if (next == end) {
            if (end == leaves) {
                return -4;
            }
            int limit = Math.min(end + reserve, leaves);
            int seq = latest()[0] + 1;
            byte[] slot = ByteBuffer.allocate(12).putInt(seq).putInt(limit).putInt(seq).array();
            for (int k = 0; k < 12; k++) {
                if (fuse == 0) {
                    fuse = -1;
                    fall();
                    return -5;
                }
                fuse = fuse < 0 ? -1 : fuse - 1;
                disk[12 * (seq % 2) + k] = slot[k];
                written++;
            }
            end = limit;
        }
        out = rfc.sign(next, message);
        released.add(next);
        next++;
        return next - 1;
    }

    boolean fuse(int k) {
        if (k < -1 || k > 1000) {
            return false;
        }
        fuse = k;
        return true;
    }

    boolean fall() {
        if (state != 1) {
            return false;
        }
        for (int i = next; i < end; i++) {
            lost.add(i);
        }
        state = 2;
        return true;
    }

    boolean rise() {
        if (state != 2) {
            return false;
        }
        end = latest()[1];
        next = end;
        state = 1;
        return true;
    }

    int hold() {
        held = out.clone();
        return held.length;
    }

    int alter(int k, int mask) {
        if (k < 0 || k >= held.length) {
            return -1;
        }
        held[k] ^= (byte) mask;
        return held[k] & 255;
    }

    int verify(int n) {
        if (n < 0 || n > tape.length) {
            return -2;
        }
        if (rfc == null) {
            return -3;
        }
        return rfc.verify(held, Arrays.copyOf(tape, n)) ? 1 : 0;
    }

    int leaf(int i) {
        if (rfc == null || i < 0 || i >= leaves) {
            return -1;
        }
        if (released.contains(i)) {
            return 2;
        }
        if (lost.contains(i)) {
            return 3;
        }
        return state == 1 && i < end ? 1 : 0;
    }

    int about(int what) {
        int[] all = {state, state == 1 ? next : -1, state == 1 ? end : -1, released.size(), lost.size(), written,
            fuse, tape.length, out.length, held.length, height, reserve};
        return what < 0 || what >= all.length ? -1 : all[what];
    }

    int disk(int k) {
        return byteOf(disk, k);
    }

    int node(int t, int i, int k) {
        if (rfc == null || t < 0 || t > height || i < 0 || i >= 1 << (height - t)) {
            return -1;
        }
        return byteOf(rfc.node(t, i), k);
    }

    int out(int k) {
        return byteOf(out, k);
    }

    /** SEQ and LIMIT of the whole slot with the greater SEQ, 0 and 0 without one. */
    private int[] latest() {
        int[] best = {0, 0};
        ByteBuffer all = ByteBuffer.wrap(disk);
        for (int slot = 0; slot < 2; slot++) {
            int seq = all.getInt(12 * slot);
            if (seq == all.getInt(12 * slot + 8) && seq > best[0]) {
                best = new int[] {seq, all.getInt(12 * slot + 4)};
            }
        }
        return best;
    }

    private static int byteOf(byte[] row, int k) {
        return k < 0 || k >= row.length ? -1 : row[k] & 255;
    }
}
