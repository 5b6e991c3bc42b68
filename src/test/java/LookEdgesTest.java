/** The edges of the calls that only look (promises 11 to 15), and of how many calls there are. */
public final class LookEdgesTest {
    private static final int MIN = Bench.MIN;
    private static final int MAX = Bench.MAX;

    private final Edges edges;

    private LookEdgesTest(Edges edges) {
        this.edges = edges;
    }

    public static void main(String[] args) throws Exception {
        Edges edges = new Edges();
        LookEdgesTest test = new LookEdgesTest(edges);
        test.leaf();
        test.about();
        test.bytes();
        test.calls();
        edges.finish();
    }

    private void leaf() {
        edges.edge("promise 11", "0 free, 1 reserved, 2 released, 3 lost", this::leafInEveryState);
        edges.edge("promise 11", "NONE: there is none such, or there never were KEYS", this::leafThatIsNot);
    }

    private void about() {
        edges.edge("promise 12", "The machine: 0 OFF, 1 UP, 2 DOWN (what 0)", this::aboutState);
        edges.edge("promise 12", "NEXT (1), END (2) (NONE if it isn't UP)", this::aboutNextAndEnd);
        edges.edge("promise 12", "leaves released (3), lost (4)", this::aboutReleasedAndLost);
        edges.edge("promise 12", "bytes ever written on the disk (5)", this::aboutWritten);
        edges.edge("promise 12", "those the FUSE has left (6; NONE without)", this::aboutFuse);
        edges.edge("promise 12", "bytes on the tape (7), in OUT (8), HELD (9), height (10), R (11)", this::aboutSizes);
        edges.edge("promise 12", "NONE for others", this::aboutOthers);
    }

    private void bytes() {
        edges.edge("PART 2", "THE DISK has 24 bytes", this::diskFirstAndLast);
        edges.edge("promise 13", "Byte k of the disk. NONE: there is none.", this::diskOutside);
        edges.edge("promise 14", "at a height (0: leaves; the greatest: the root) of the tree", this::nodeFirstAndLast);
        edges.edge("promise 14", "NONE: there is none such, or there never were KEYS", this::nodeThatIsNot);
        edges.edge("promise 15", "Byte k of OUT. NONE: there is none.", this::outFirstAndLast);
    }

    private void calls() {
        edges.edge("What it is", "An object is used for at most 512 calls after it has been made", this::call512);
    }

    private void leafInEveryState() {
        LeafSigner x = Bench.keyed(2, 2, 1);
        edges.due("free", Bench.leaves(x), "0000");
        x.sign(0);
        edges.due("released, reserved", Bench.leaves(x), "2100");
        x.fall();
        edges.due("lost when DOWN", Bench.leaves(x), "2300");
        x.rise();
        Bench.signTimes(x, 2);
        edges.due("the last is released", Bench.leaves(x), "2322");
        x.sign(0);
        edges.due("no leaf is left", Bench.leaves(x), "2322");
    }

    private void leafThatIsNot() {
        LeafSigner x = new LeafSigner(2, 1);
        Bench.feed(x, 2, 4);
        x.keys();
        for (int i = -1; i <= 4; i++) {
            edges.due("never KEYS, leaf " + i, x.leaf(i), -1);
        }
        for (int height = 1; height <= 4; height++) {
            int leaves = 1 << height;
            x = Bench.keyed(height, 1, 2);
            for (int i : new int[] {MIN, -leaves, -1, leaves, leaves + 1, 32, MAX}) {
                edges.due("leaf " + i + " of " + leaves, x.leaf(i), -1);
            }
            edges.due("the first", x.leaf(0), 0);
            edges.due("the last", x.leaf(leaves - 1), 0);
            x.fall();
            edges.due("the last when DOWN", x.leaf(leaves - 1), 0);
            edges.due("one more when DOWN", x.leaf(leaves), -1);
        }
    }

    private void aboutState() {
        LeafSigner x = new LeafSigner(1, 1);
        edges.due("OFF", x.about(0), 0);
        x.rise();
        x.fall();
        x.sign(0);
        x.keys();
        edges.due("OFF after refused calls", x.about(0), 0);
        Bench.giveKeys(x, 3);
        edges.due("UP", x.about(0), 1);
        x.fall();
        edges.due("DOWN", x.about(0), 2);
        x.rise();
        edges.due("UP again", x.about(0), 1);
        x.fuse(0);
        x.sign(0);
        edges.due("DOWN by a fuse", x.about(0), 2);
        Bench.giveKeys(x, 3);
        edges.due("UP by keys", x.about(0), 1);
        Bench.signTimes(x, 3);
        edges.due("UP without a leaf", x.about(0), 1);
    }

    private void aboutNextAndEnd() {
        LeafSigner x = new LeafSigner(2, 3);
        edges.due("OFF", x.about(1) + " " + x.about(2), "-1 -1");
        Bench.giveKeys(x, 4);
        edges.due("UP", x.about(1) + " " + x.about(2), "0 0");
        x.sign(0);
        edges.due("reserved", x.about(1) + " " + x.about(2), "1 3");
        x.fall();
        edges.due("DOWN", x.about(1) + " " + x.about(2), "-1 -1");
        x.rise();
        edges.due("UP again", x.about(1) + " " + x.about(2), "3 3");
        x.sign(0);
        edges.due("behind the last leaf", x.about(1) + " " + x.about(2), "4 4");
        x.sign(0);
        edges.due("and still", x.about(1) + " " + x.about(2), "4 4");
    }

    private void aboutReleasedAndLost() {
        LeafSigner x = new LeafSigner(1, 2);
        edges.due("OFF", x.about(3) + " " + x.about(4), "0 0");
        Bench.giveKeys(x, 5);
        edges.due("none", x.about(3) + " " + x.about(4), "0 0");
        x.sign(0);
        edges.due("one released, one reserved", x.about(3) + " " + x.about(4), "1 0");
        x.fall();
        edges.due("DOWN", x.about(3) + " " + x.about(4), "1 1");
        x.rise();
        x.fall();
        edges.due("lost but once", x.about(3) + " " + x.about(4), "1 1");
        x = Bench.keyed(4, 8, 5);
        Bench.signTimes(x, 17);
        edges.due("all released", x.about(3) + " " + x.about(4), "16 0");
        x = Bench.keyed(4, 8, 5);
        x.sign(0);
        x.fall();
        x.rise();
        x.sign(0);
        x.fall();
        edges.due("all but two lost", x.about(3) + " " + x.about(4), "2 14");
    }

    private void aboutWritten() {
        LeafSigner x = new LeafSigner(1, 1);
        edges.due("none", x.about(5), 0);
        Bench.giveKeys(x, 6);
        edges.due("none by keys", x.about(5), 0);
        x.fuse(0);
        x.sign(0);
        edges.due("none by a fuse of 0", x.about(5), 0);
        x.rise();
        edges.due("none by rise", x.about(5), 0);
        x.fuse(11);
        x.sign(0);
        edges.due("all but one", x.about(5), 11);
        x.rise();
        x.sign(0);
        edges.due("a slot more", x.about(5), 23);
        x.sign(0);
        x.sign(0);
        edges.due("the last slot", x.about(5), 35);
        Bench.giveKeys(x, 6);
        edges.due("ever: keys forget none", x.about(5), 35);
        x.sign(0);
        edges.due("and more", x.about(5), 47);
    }

    private void aboutFuse() {
        LeafSigner x = new LeafSigner(1, 2);
        edges.due("without", x.about(6), -1);
        x.fuse(12);
        edges.due("set when OFF", x.about(6), 12);
        Bench.giveKeys(x, 7);
        edges.due("with keys", x.about(6), 12);
        x.sign(0);
        edges.due("none left, but not yet burnt", x.about(6), 0);
        x.sign(0);
        x.sign(0);
        edges.due("where nothing is written", x.about(6), 0);
        Bench.giveKeys(x, 7);
        edges.due("it falls", x.sign(0), -5);
        edges.due("burnt", x.about(6), -1);
        x.rise();
        edges.due("without after rise", x.about(6), -1);
    }

    private void aboutSizes() {
        LeafSigner x = new LeafSigner(3, 5);
        edges.due("OFF", Bench.about(x), "0 -1 -1 0 0 0 -1 0 0 0 3 5");
        Bench.feed(x, 8, 11);
        edges.due("a full tape", Bench.about(x), "0 -1 -1 0 0 0 -1 200 0 0 3 5");
        x.keys();
        x.sign(0);
        edges.due("OUT", Bench.about(x), "1 1 5 1 0 12 -1 0 2276 0 3 5");
        x.hold();
        edges.due("HELD", Bench.about(x), "1 1 5 1 0 12 -1 0 2276 2276 3 5");
    }

    private void aboutOthers() {
        for (int what : new int[] {MIN, -2, -1, 12, 13, 16, 256, 1 << 16, MAX}) {
            edges.due("OFF, about " + what, new LeafSigner(1, 1).about(what), -1);
            edges.due("UP, about " + what, signed().about(what), -1);
            edges.doesNothing("about " + what, LookEdgesTest::signed, x -> x.about(what));
        }
    }

    private void diskFirstAndLast() {
        LeafSigner x = Bench.keyed(4, 1, 9);
        for (int k = 0; k < 24; k++) {
            edges.due("byte " + k + " at first", x.disk(k), 0);
        }
        Bench.signTimes(x, 14);
        edges.due("the last byte of slot 0", x.disk(11), 14);
        edges.due("the first byte of slot 1", x.disk(12), 0);
        edges.due("the last byte of slot 1", x.disk(23), 13);
        x.fall();
        edges.due("the last byte when DOWN", x.disk(23), 13);
    }

    private void diskOutside() {
        for (int k : new int[] {MIN, -24, -1, 24, 25, 36, MAX}) {
            edges.due("OFF, byte " + k, new LeafSigner(1, 1).disk(k), -1);
            edges.due("UP, byte " + k, signed().disk(k), -1);
            edges.doesNothing("disk " + k, LookEdgesTest::signed, x -> x.disk(k));
        }
    }

    private void nodeFirstAndLast() {
        for (int height = 1; height <= 4; height++) {
            LeafSigner x = Bench.keyed(height, 1, 10);
            Rfc rfc = Bench.rfc(height, 10);
            for (int t = 0; t <= height; t++) {
                int last = (1 << (height - t)) - 1;
                for (int k : new int[] {0, 1, 30, 31}) {
                    edges.due("byte " + k + " of the first at " + t, x.node(t, 0, k), rfc.node(t, 0)[k] & 255);
                    edges.due("byte " + k + " of the last at " + t, x.node(t, last, k), rfc.node(t, last)[k] & 255);
                }
            }
        }
    }

    private void nodeThatIsNot() {
        LeafSigner x = new LeafSigner(2, 1);
        Bench.feed(x, 11, 4);
        x.keys();
        for (int t = 0; t <= 2; t++) {
            edges.due("never KEYS, height " + t, x.node(t, 0, 0), -1);
        }
        for (int height = 1; height <= 4; height++) {
            x = Bench.keyed(height, 1, 11);
            for (int t = 0; t <= height; t++) {
                int count = 1 << (height - t);
                for (int i : new int[] {MIN, -1, count, count + 1, 2 * count, MAX}) {
                    edges.due("node " + i + " at " + t + " of " + height, x.node(t, i, 0), -1);
                }
                for (int k : new int[] {MIN, -1, 32, 33, 64, MAX}) {
                    edges.due("byte " + k + " at " + t, x.node(t, 0, k), -1);
                }
            }
            for (int t : new int[] {MIN, -1, height + 1, 31, 32, 33, 32 + height, 64, MAX}) {
                edges.due("height " + t + " of " + height, x.node(t, 0, 0), -1);
            }
        }
        edges.doesNothing("node", LookEdgesTest::signed, y -> y.node(0, 4, 0));
    }

    private void outFirstAndLast() {
        LeafSigner x = new LeafSigner(1, 1);
        for (int k : new int[] {MIN, -1, 0, 1, 2211, 2212, MAX}) {
            edges.due("OFF, byte " + k, x.out(k), -1);
        }
        Bench.giveKeys(x, 12);
        edges.due("before the first signature", x.out(0), -1);
        x.sign(0);
        byte[] want = Bench.rfc(1, 12).sign(0, new byte[0]);
        for (int k : new int[] {0, 3, 4, 35, 36, 2179, 2180, 2210, 2211}) {
            edges.due("byte " + k, x.out(k), want[k] & 255);
        }
        for (int k : new int[] {MIN, -2212, -1, 2212, 2213, 2244, MAX}) {
            edges.due("byte " + k, x.out(k), -1);
        }
        edges.doesNothing("out", LookEdgesTest::signed, y -> y.out(2244));
        x.fall();
        edges.due("the last byte when DOWN", x.out(2211), want[2211] & 255);
    }

    /** The last call that counts is each of the calls in turn; the model tells what is due. */
    private void call512() {
        for (int last = 0; last < 14; last++) {
            LeafSigner x = new LeafSigner(1, 1);
            Model model = new Model(1, 1);
            for (int call = 1; call <= 511; call++) {
                int turn = call % 37;
                int kind = turn < 5 ? 0 : turn == 5 ? 1 : 2 + turn % 12;
                same("call " + call, x, model, kind, call);
            }
            same("call 512, kind " + last, x, model, last, 512);
        }
    }

    private void same(String what, LeafSigner x, Model model, int kind, int k) {
        switch (kind) {
            case 0: edges.due(what, x.feed(k, 2, 3, 4, 5), model.feed(k, 2, 3, 4, 5)); break;
            case 1: edges.due(what, x.keys(), model.keys()); break;
            case 2: edges.due(what, x.sign(0), model.sign(0)); break;
            case 3: edges.due(what, x.fuse(k % 25), model.fuse(k % 25)); break;
            case 4: edges.due(what, x.fall(), model.fall()); break;
            case 5: edges.due(what, x.rise(), model.rise()); break;
            case 6: edges.due(what, x.hold(), model.hold()); break;
            case 7: edges.due(what, x.verify(0), model.verify(0)); break;
            case 8: edges.due(what, x.alter(k, k), model.alter(k, k)); break;
            case 9: edges.due(what, x.leaf(k % 3), model.leaf(k % 3)); break;
            case 10: edges.due(what, x.about(k % 13), model.about(k % 13)); break;
            case 11: edges.due(what, x.disk(k % 25), model.disk(k % 25)); break;
            case 12: edges.due(what, x.node(k % 2, 0, k % 33), model.node(k % 2, 0, k % 33)); break;
            default: edges.due(what, x.out(k), model.out(k)); break;
        }
    }

    private static LeafSigner signed() {
        LeafSigner x = Bench.keyed(2, 3, 13);
        x.fuse(50);
        x.sign(0);
        x.hold();
        x.sign(0);
        Bench.feed(x, 14, 1);
        return x;
    }
}
