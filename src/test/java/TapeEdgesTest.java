import java.util.Arrays;
import java.util.function.Supplier;

/** The edges of a new object, of the tape, and of the keys that are taken from it (promises 1 to 3). */
public final class TapeEdgesTest {
    private static final int MIN = Bench.MIN;
    private static final int MAX = Bench.MAX;

    private final Edges edges;

    private TapeEdgesTest(Edges edges) {
        this.edges = edges;
    }

    public static void main(String[] args) throws Exception {
        Edges edges = new Edges();
        TapeEdgesTest test = new TapeEdgesTest(edges);
        test.newObject();
        test.feed();
        test.keys();
        edges.finish();
    }

    private void newObject() {
        edges.edge("promise 1", "A tree of height (1 to 4)", this::everyHeight);
        edges.edge("promise 1", "reserving so many (1 to 8) at once", this::everyReserve);
        edges.edge("promise 1", "numbers outside are held to these", this::heldToTheBounds);
        edges.edge("promise 1", "OFF; an empty disk (all 0), tape, OUT", this::nothingYet);
        edges.edge("constants", "NONE = -1", () -> edges.due("NONE", LeafSigner.NONE, -1));
    }

    private void feed() {
        edges.edge("promise 2", "Twenty bytes come behind those on the tape", this::feedBehind);
        edges.edge("promise 2", "of each number the highest first", this::feedHighestFirst);
        edges.edge("promise 2", "how many there are", this::feedUpTo200);
        edges.edge("promise 2", "NONE, doing nothing: there would be more than 200", this::feedBeyond200);
    }

    private void keys() {
        edges.edge("promise 3", "the first 96 bytes of the tape (S, P, SEED", this::keysOf96);
        edges.edge("promise 3", "it's empty then", this::keysEmptyTheTape);
        edges.edge("promise 3", "the disk is empty again", this::keysEmptyTheDisk);
        edges.edge("promise 3", "no leaf was ever used", this::keysFreeTheLeaves);
        edges.edge("promise 3", "it's UP", this::keysBringItUp);
        edges.edge("promise 3", "(a FUSE stays)", this::keysLeaveTheFuse);
        edges.edge("promise 3", "False, doing nothing: there are fewer", this::keysOfFewer);
    }

    private void everyHeight() {
        for (int height = 1; height <= 4; height++) {
            LeafSigner x = Bench.keyed(height, 1, 1);
            edges.due("height", x.about(10), height);
            edges.due("the last leaf of height " + height, x.leaf((1 << height) - 1), 0);
            edges.due("a leaf more", x.leaf(1 << height), -1);
            edges.due("the root", x.node(height, 0, 0) >= 0, true);
            edges.due("above the root", x.node(height + 1, 0, 0), -1);
        }
    }

    private void everyReserve() {
        for (int reserve = 1; reserve <= 8; reserve++) {
            LeafSigner x = Bench.keyed(4, reserve, 1);
            edges.due("R", x.about(11), reserve);
            edges.due("the first leaf", x.sign(0), 0);
            edges.due("reserved at once", x.about(2), reserve);
        }
    }

    private void heldToTheBounds() {
        for (int small : new int[] {0, -1, -4, MIN}) {
            LeafSigner x = Bench.keyed(small, small, 1);
            edges.due("height for " + small, x.about(10), 1);
            edges.due("R for " + small, x.about(11), 1);
            edges.due("the last leaf", x.leaf(1), 0);
            edges.due("a leaf more", x.leaf(2), -1);
            edges.due("the first leaf", x.sign(0), 0);
            edges.due("reserved at once", x.about(2), 1);
        }
        for (int large : new int[] {9, 36, 1 << 30, MAX}) {
            LeafSigner x = Bench.keyed(large, large, 1);
            edges.due("height for " + large, x.about(10), 4);
            edges.due("R for " + large, x.about(11), 8);
            edges.due("the last leaf", x.leaf(15), 0);
            edges.due("a leaf more", x.leaf(16), -1);
            edges.due("the first leaf", x.sign(0), 0);
            edges.due("reserved at once", x.about(2), 8);
        }
        edges.due("the first height that is too large", new LeafSigner(5, 5).about(10), 4);
        edges.due("R stays beside it", new LeafSigner(5, 5).about(11), 5);
        edges.due("height stays beside an R that is too large", new LeafSigner(2, 9).about(10), 2);
    }

    private void nothingYet() {
        LeafSigner x = new LeafSigner(2, 2);
        edges.due("about", Bench.about(x), "0 -1 -1 0 0 0 -1 0 0 0 2 2");
        edges.due("the disk", Bench.disk(x), Bench.words(0, 0, 0, 0, 0, 0));
        edges.due("OUT", x.out(0), -1);
        edges.due("nothing to hold", x.hold(), 0);
        edges.due("nothing on the tape to sign", x.sign(1), -2);
        edges.due("the tape begins at its beginning", x.feed(1, 2, 3, 4, 5), 20);
    }

    private void feedBehind() {
        for (int times = 1; times <= 10; times++) {
            LeafSigner x = Bench.keyed(1, 1, 2);
            Bench.feed(x, 3, times);
            edges.due("sign", x.sign(20 * times), 0);
            byte[] want = Bench.rfc(1, 2).sign(0, Bench.bytes(3, 20 * times));
            edges.due("the signature of " + times + " feeds", Bench.out(x), Bench.some(want));
        }
    }

    private void feedHighestFirst() {
        byte[] all = {-1, 2, 3, -4, 5, -6, 7, 8, 9, 10, -11, 12, 13, 14, 15, 16, 17, 18, 19, -128};
        for (int n = 1; n <= 20; n++) {
            LeafSigner x = Bench.keyed(1, 1, 2);
            x.feed(0xFF0203FC, 0x05FA0708, 0x090AF50C, 0x0D0E0F10, 0x11121380);
            edges.due("sign", x.sign(n), 0);
            byte[] want = Bench.rfc(1, 2).sign(0, Arrays.copyOf(all, n));
            edges.due("the signature of " + n + " bytes", Bench.out(x), Bench.some(want));
        }
    }

    private void feedUpTo200() {
        LeafSigner x = new LeafSigner(1, 1);
        for (int times = 1; times <= 10; times++) {
            edges.due("feed " + times, x.feed(MIN, MAX, -1, 0, times), 20 * times);
            edges.due("on the tape", x.about(7), 20 * times);
        }
    }

    private void feedBeyond200() {
        Supplier<LeafSigner> full = () -> {
            LeafSigner x = Bench.keyed(1, 1, 4);
            Bench.feed(x, 5, 10);
            return x;
        };
        LeafSigner x = full.get();
        edges.due("the eleventh feed", x.feed(1, 2, 3, 4, 5), -1);
        edges.due("the twelfth", x.feed(0, 0, 0, 0, 0), -1);
        edges.due("on the tape", x.about(7), 200);
        edges.doesNothing("feed", full, y -> y.feed(1, 2, 3, 4, 5));
        edges.due("sign of all", x.sign(200), 0);
        edges.due("room again", x.feed(1, 2, 3, 4, 5), 20);
    }

    /** Byte 95 is the last that counts; S, P and SEED are told apart by what they change. */
    private void keysOf96() {
        LeafSigner plain = Bench.keyed(1, 1, 6);
        plain.sign(0);
        for (int place : new int[] {0, 31, 32, 63, 64, 95, 96, 99}) {
            LeafSigner x = new LeafSigner(1, 1);
            Bench.giveChangedKeys(x, 6, place);
            x.sign(0);
            boolean sameRoot = Bench.root(x).equals(Bench.root(plain));
            boolean sameRandom = x.out(4) == plain.out(4) && x.out(35) == plain.out(35);
            edges.due("the same root, byte " + place, sameRoot, place >= 96 || (place >= 32 && place < 64));
            edges.due("the same r, byte " + place, sameRandom, place < 32 || place >= 64);
        }
        edges.due("the root", Bench.root(plain), Bench.hex(Bench.rfc(1, 6).root()));
        LeafSigner x = new LeafSigner(1, 1);
        Bench.feed(x, 6, 10);
        edges.due("keys of a full tape", x.keys(), true);
        edges.due("the root of its first 96", Bench.root(x), Bench.root(plain));
    }

    private void keysEmptyTheTape() {
        for (int times = 5; times <= 10; times++) {
            LeafSigner x = new LeafSigner(1, 1);
            Bench.feed(x, 7, times);
            edges.due("keys of " + 20 * times, x.keys(), true);
            edges.due("on the tape", x.about(7), 0);
            edges.due("no second keys", x.keys(), false);
            edges.due("nothing to sign", x.sign(1), -2);
            edges.due("feed", x.feed(1, 2, 3, 4, 5), 20);
        }
    }

    private void keysEmptyTheDisk() {
        LeafSigner x = Bench.keyed(2, 1, 8);
        Bench.signTimes(x, 3);
        edges.due("both slots", Bench.disk(x), Bench.words(2, 2, 2, 3, 3, 3));
        x.fuse(5);
        x.sign(0);
        edges.due("a torn slot", Bench.disk(x), Bench.words(4, 2, 2, 3, 3, 3));
        Bench.giveKeys(x, 9);
        edges.due("the disk", Bench.disk(x), Bench.words(0, 0, 0, 0, 0, 0));
        edges.due("bytes ever written stay", x.about(5), 41);
        x.fall();
        x.rise();
        edges.due("nothing on the disk to come back to", x.about(2), 0);
        x.sign(0);
        edges.due("the first SEQ again", Bench.disk(x), Bench.words(0, 0, 0, 1, 1, 1));
    }

    private void keysFreeTheLeaves() {
        LeafSigner x = Bench.keyed(2, 3, 10);
        Bench.signTimes(x, 2);
        x.fall();
        x.rise();
        x.sign(0);
        edges.due("used up", Bench.leaves(x), "2232");
        edges.due("no more", x.sign(0), -4);
        Bench.giveKeys(x, 10);
        edges.due("leaves", Bench.leaves(x), "0000");
        edges.due("released", x.about(3), 0);
        edges.due("lost", x.about(4), 0);
        edges.due("the first leaf", x.sign(0), 0);
    }

    private void keysBringItUp() {
        LeafSigner x = new LeafSigner(2, 3);
        Bench.giveKeys(x, 11);
        edges.due("of OFF: state, NEXT, END", x.about(0) + " " + x.about(1) + " " + x.about(2), "1 0 0");
        x.sign(0);
        Bench.giveKeys(x, 12);
        edges.due("of UP: state, NEXT, END", x.about(0) + " " + x.about(1) + " " + x.about(2), "1 0 0");
        x.sign(0);
        x.fall();
        Bench.giveKeys(x, 13);
        edges.due("of DOWN: state, NEXT, END", x.about(0) + " " + x.about(1) + " " + x.about(2), "1 0 0");
        edges.due("not DOWN any more", x.rise(), false);
    }

    private void keysLeaveTheFuse() {
        for (int k : new int[] {-1, 0, 5, 1000}) {
            LeafSigner x = new LeafSigner(1, 1);
            x.fuse(k);
            Bench.giveKeys(x, 14);
            edges.due("left of " + k, x.about(6), k);
        }
        LeafSigner x = Bench.keyed(1, 1, 14);
        x.fuse(17);
        x.sign(0);
        Bench.giveKeys(x, 15);
        edges.due("left of a fuse that is burning", x.about(6), 5);
        edges.due("it falls by it", x.sign(0), -5);
        edges.due("at its sixth byte", x.about(5), 17);
    }

    private void keysOfFewer() {
        for (int times = 0; times <= 4; times++) {
            int count = times;
            edges.due("keys of " + 20 * times, madeOff(count).keys(), false);
            edges.due("when UP", madeUp(count).keys(), false);
            edges.due("when DOWN", madeDown(count).keys(), false);
            edges.doesNothing("OFF", () -> madeOff(count), LeafSigner::keys);
            edges.doesNothing("UP", () -> madeUp(count), LeafSigner::keys);
            edges.doesNothing("DOWN", () -> madeDown(count), LeafSigner::keys);
        }
    }

    private static LeafSigner madeOff(int times) {
        LeafSigner x = new LeafSigner(2, 3);
        x.fuse(20);
        Bench.feed(x, 16, times);
        return x;
    }

    private static LeafSigner madeUp(int times) {
        LeafSigner x = Bench.keyed(2, 3, 17);
        x.fuse(20);
        x.sign(0);
        x.hold();
        Bench.feed(x, 16, times);
        return x;
    }

    private static LeafSigner madeDown(int times) {
        LeafSigner x = madeUp(times);
        x.fall();
        return x;
    }
}
