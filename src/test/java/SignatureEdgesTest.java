/** The edges of a signature and of the calls that hold, alter and verify one (PART 1, promises 8 to 10). */
public final class SignatureEdgesTest {
    private static final int MIN = Bench.MIN;
    private static final int MAX = Bench.MAX;

    private final Edges edges;

    private SignatureEdgesTest(Edges edges) {
        this.edges = edges;
    }

    public static void main(String[] args) throws Exception {
        Edges edges = new Edges();
        SignatureEdgesTest test = new SignatureEdgesTest(edges);
        test.signature();
        test.holdAndAlter();
        test.verify();
        edges.finish();
    }

    private void signature() {
        edges.edge("PART 1", "2180 + 32 h bytes", this::sizeOfEveryHeight);
        edges.edge("PART 1", "i (4 bytes), r (32), 67 parts (32 each), h nodes beside the way (32 each), from the leaf up",
            this::everyLeafOfEveryHeight);
        edges.edge("PART 1", "with n = 32, w = 16 (so len = 67)", this::everyDigitOfTheSum);
    }

    private void holdAndAlter() {
        edges.edge("promise 8", "OUT is HELD, in place of what was", this::holdInPlace);
        edges.edge("promise 8", "how many bytes", this::holdOfNothing);
        edges.edge("promise 9", "Byte k of what is HELD is changed", this::alterFirstAndLast);
        edges.edge("promise 9", "(exclusive or the lowest 8 bits of mask): the byte then", this::alterByEveryMask);
        edges.edge("promise 9", "NONE: there is none", this::alterOutside);
    }

    private void verify() {
        edges.edge("promise 10", "a SIGNATURE (of so many bytes", this::verifyOfNothing);
        edges.edge("promise 10", "its leaf below 2 to h", this::verifyLeafOutside);
        edges.edge("promise 10", "of n bytes of the tape (the first ones; it stays)", this::verifyOfFirstBytes);
        edges.edge("promise 10", "for the public key there is: 1, 0", this::verifyByPublicKey);
        edges.edge("promise 10", "-2: n is below 0 or more than there are", this::verifyOfWrongCount);
        edges.edge("promise 10", "-3: there never were KEYS", this::verifyWithoutKeys);
    }

    private void sizeOfEveryHeight() {
        int[] sizes = {2212, 2244, 2276, 2308};
        for (int height = 1; height <= 4; height++) {
            LeafSigner x = Bench.keyed(height, 1, 1);
            x.sign(0);
            int size = sizes[height - 1];
            edges.due("in OUT", x.about(8), size);
            edges.due("the last byte", x.out(size - 1) >= 0, true);
            edges.due("a byte more", x.out(size), -1);
            edges.due("hold", x.hold(), size);
        }
    }

    /** The way of the first leaf has all nodes on the right, that of the last all on the left. */
    private void everyLeafOfEveryHeight() {
        for (int height = 1; height <= 4; height++) {
            LeafSigner x = Bench.keyed(height, 8, 2);
            Rfc rfc = Bench.rfc(height, 2);
            for (int i = 0; i < (1 << height); i++) {
                x.sign(0);
                byte[] want = rfc.sign(i, new byte[0]);
                edges.due("leaf " + i + " of height " + height, Bench.out(x), Bench.some(want));
            }
        }
        LeafSigner x = Bench.keyed(4, 8, 2);
        Bench.signTimes(x, 16);
        byte[] last = Bench.rfc(4, 2).sign(15, new byte[0]);
        for (int t = 0; t < 4; t++) {
            for (int k = 0; k < 32; k++) {
                int place = 2180 + 32 * t + k;
                edges.due("byte " + k + " beside the way at height " + t, x.out(place), last[place] & 255);
            }
        }
    }

    /** Enough messages that the sum's two lower digits take every value, 0 (no step) and 15 (all) among them. */
    private void everyDigitOfTheSum() {
        Rfc rfc = Bench.rfc(1, 3);
        boolean[] seen = new boolean[3 * 16];
        int left = 2 + 16 + 16;
        for (int m = 0; m < 100000 && left > 0; m++) {
            byte[] message = {0, (byte) (m >> 16), (byte) (m >> 8), (byte) m};
            int[] digits = rfc.messageDigits(0, message);
            boolean isNew = false;
            for (int j = 0; j < 3; j++) {
                int place = 16 * j + digits[64 + j];
                isNew |= !seen[place];
                left -= seen[place] ? 0 : 1;
                seen[place] = true;
            }
            if (isNew) {
                sumIsSigned(rfc, m, message);
            }
        }
        edges.due("the first digit was 1 and 2", seen[1] && seen[2], true);
        for (int value = 0; value < 16; value++) {
            edges.due("the second digit was " + value, seen[16 + value], true);
            edges.due("the third digit was " + value, seen[32 + value], true);
        }
    }

    private void sumIsSigned(Rfc rfc, int m, byte[] message) {
        LeafSigner x = Bench.keyed(1, 1, 3);
        x.feed(m, 0, 0, 0, 0);
        x.sign(4);
        byte[] want = rfc.sign(0, message);
        for (int k = 36 + 32 * 64; k < 36 + 32 * 67; k++) {
            edges.due("byte " + k + " of message " + m, x.out(k), want[k] & 255);
        }
    }

    private void holdInPlace() {
        LeafSigner x = Bench.keyed(2, 1, 4);
        x.sign(0);
        x.hold();
        String first = Bench.out(x);
        edges.due("HELD", Bench.held(x), first);
        x.sign(0);
        String second = Bench.out(x);
        edges.due("HELD before the next hold", Bench.held(x), first);
        x.alter(0, 255);
        x.alter(2243, 255);
        edges.due("OUT is not altered with it", Bench.out(x), second);
        edges.due("nor its last byte", x.out(2243), x.alter(2243, 0) ^ 255);
        x.hold();
        edges.due("HELD, in place of what was altered", Bench.held(x), second);
        edges.due("its last byte", x.alter(2243, 0), x.out(2243));
        edges.due("it verifies", x.verify(0), 1);
        x.alter(100, 1);
        x.hold();
        edges.due("the same OUT once more", x.verify(0), 1);
    }

    private void holdOfNothing() {
        LeafSigner x = new LeafSigner(1, 1);
        edges.due("when OFF", x.hold(), 0);
        Bench.giveKeys(x, 5);
        edges.due("before the first signature", x.hold(), 0);
        edges.due("HELD", x.about(9), 0);
        x.fuse(0);
        x.sign(0);
        edges.due("when it fell before", x.hold(), 0);
        x.rise();
        x.sign(0);
        edges.due("HELD before hold", x.about(9), 0);
        edges.due("a signature", x.hold(), 2212);
        edges.due("HELD", x.about(9), 2212);
        x.fall();
        edges.due("when DOWN", x.hold(), 2212);
    }

    private void alterFirstAndLast() {
        for (int height = 1; height <= 4; height++) {
            LeafSigner x = Bench.keyed(height, 1, 6);
            x.sign(0);
            int size = x.hold();
            for (int k : new int[] {0, 1, 2, 3, size - 4, size - 3, size - 2, size - 1}) {
                int old = x.out(k);
                edges.due("byte " + k, x.alter(k, 1), old ^ 1);
            }
            for (int k : new int[] {0, 1, 2, 3, size - 4, size - 3, size - 2, size - 1}) {
                edges.due("byte " + k + " stays changed", x.alter(k, 0), x.out(k) ^ 1);
            }
            edges.due("the byte behind the first ones doesn't", x.alter(4, 0), x.out(4));
            edges.due("nor the one before the last ones", x.alter(size - 5, 0), x.out(size - 5));
        }
    }

    private void alterByEveryMask() {
        LeafSigner x = Bench.keyed(1, 1, 7);
        x.sign(0);
        x.hold();
        int[] want = new int[16];
        for (int k = 0; k < 16; k++) {
            want[k] = x.out(k);
        }
        for (int mask : new int[] {0, 1, 128, 255, 256, 257, 0x7FFFFF00, -1, -2, -256, MIN, MAX}) {
            for (int k = 8; k < 12; k++) {
                want[k] ^= mask & 255;
                edges.due("byte " + k + " by " + mask, x.alter(k, mask), want[k]);
            }
            for (int k = 4; k < 16; k++) {
                edges.due("byte " + k + " behind " + mask, x.alter(k, 0), want[k]);
            }
        }
    }

    private void alterOutside() {
        LeafSigner x = Bench.keyed(1, 1, 8);
        x.sign(0);
        for (int k : new int[] {MIN, -1, 0, 1, 2211, 2212, MAX}) {
            edges.due("nothing is HELD, byte " + k, x.alter(k, 255), -1);
        }
        edges.due("still nothing", x.about(9), 0);
        x = holding();
        for (int k : new int[] {MIN, -2244, -1, 2244, 2245, 2308, MAX}) {
            edges.due("byte " + k, x.alter(k, 255), -1);
            edges.doesNothing("alter " + k, SignatureEdgesTest::holding, y -> y.alter(k, 255));
        }
        edges.due("HELD is as it was", x.verify(20), 1);
    }

    private void verifyOfNothing() {
        LeafSigner x = Bench.keyed(1, 1, 9);
        edges.due("nothing is HELD", x.verify(0), 0);
        Bench.feed(x, 10, 10);
        edges.due("nor for a full tape", x.verify(200), 0);
        x.sign(0);
        edges.due("OUT isn't HELD", x.verify(0), 0);
        x.hold();
        edges.due("HELD", x.verify(0), 1);
    }

    private void verifyLeafOutside() {
        for (int height = 1; height <= 4; height++) {
            LeafSigner x = Bench.keyed(height, 8, 11);
            Bench.signTimes(x, 1 << height);
            x.hold();
            edges.due("the last leaf", x.verify(0), 1);
            int leaves = 1 << height;
            verifyAltered("2 to h more", x, 3, leaves);
            verifyAltered("2 to h itself", x, 3, (leaves - 1) ^ leaves);
            verifyAltered("another leaf below", x, 3, 1);
            for (int k = 0; k < 3; k++) {
                verifyAltered("far above, by byte " + k, x, k, 128);
            }
            edges.due("as it was", x.verify(0), 1);
        }
    }

    private void verifyAltered(String what, LeafSigner x, int k, int mask) {
        x.alter(k, mask);
        edges.due(what, x.verify(0), 0);
        x.alter(k, mask);
    }

    private void verifyOfFirstBytes() {
        for (int n : new int[] {0, 1, 19, 20, 55, 56, 63, 64, 119, 120, 199, 200}) {
            LeafSigner x = Bench.keyed(1, 2, 12);
            Bench.feed(x, 13, 10);
            x.sign(n);
            x.hold();
            Bench.feed(x, 13, 10);
            edges.due("n " + n, x.verify(n), 1);
            edges.due("and again", x.verify(n), 1);
            edges.due("one less", x.verify(n - 1), n == 0 ? -2 : 0);
            edges.due("one more", x.verify(n + 1), n == 200 ? -2 : 0);
            edges.due("on the tape", x.about(7), 200);
            x.sign(n);
            byte[] want = Bench.rfc(1, 12).sign(1, Bench.bytes(13, n));
            edges.due("the tape was as before", Bench.out(x), Bench.some(want));
        }
    }

    /** The public key is the root and SEED: another P makes other signatures, but the same public key. */
    private void verifyByPublicKey() {
        for (int place : new int[] {0, 31, 32, 63, 64, 95, 96}) {
            LeafSigner x = Bench.keyed(1, 1, 14);
            x.sign(0);
            x.hold();
            Bench.giveChangedKeys(x, 14, place);
            boolean same = place >= 96 || (place >= 32 && place < 64);
            edges.due("KEYS that differ in byte " + place, x.verify(0), same ? 1 : 0);
        }
        LeafSigner x = Bench.keyed(1, 1, 14);
        x.sign(0);
        x.hold();
        x.fall();
        edges.due("DOWN the public key is there", x.verify(0), 1);
    }

    private void verifyOfWrongCount() {
        for (int n : new int[] {-1, -2, MIN, 21, 200, MAX}) {
            edges.due("UP, n " + n, holding().verify(n), -2);
            LeafSigner x = holding();
            x.fall();
            edges.due("DOWN, n " + n, x.verify(n), -2);
            x = new LeafSigner(1, 1);
            Bench.feed(x, 15, 1);
            edges.due("OFF, n " + n, x.verify(n), -2);
            edges.due("nothing HELD, n " + n, Bench.keyed(1, 1, 15).verify(n), -2);
            edges.doesNothing("n " + n, SignatureEdgesTest::holding, y -> y.verify(n));
        }
        edges.due("an empty tape", Bench.keyed(1, 1, 15).verify(1), -2);
    }

    private void verifyWithoutKeys() {
        LeafSigner x = new LeafSigner(1, 1);
        edges.due("an empty tape", x.verify(0), -3);
        Bench.feed(x, 15, 4);
        for (int n : new int[] {0, 1, 80}) {
            edges.due("n " + n, x.verify(n), -3);
        }
        x.keys();
        edges.due("keys of too few are none", x.verify(0), -3);
        Bench.feed(x, 15, 1);
        edges.due("on the tape they are none", x.verify(0), -3);
        edges.due("nothing was done", x.about(7), 100);
        x.keys();
        edges.due("KEYS", x.verify(0), 0);
        x.fall();
        edges.due("DOWN there were KEYS", x.verify(0), 0);
    }

    private static LeafSigner holding() {
        LeafSigner x = Bench.keyed(2, 3, 16);
        Bench.feed(x, 17, 1);
        x.sign(20);
        x.hold();
        Bench.feed(x, 17, 1);
        return x;
    }
}
