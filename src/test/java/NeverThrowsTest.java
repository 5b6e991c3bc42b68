import java.util.function.Supplier;

/** Rule 7 of the language: no call throws, for any arguments in any state. */
public final class NeverThrowsTest {
    private static final int[] NUMBERS = {
        Integer.MIN_VALUE, Integer.MIN_VALUE + 1, -2308, -33, -2, -1, 0, 1, 2, 4, 5, 11, 12, 16, 23, 24, 31, 32, 33, 96,
        199, 200, 201, 255, 256, 1000, 1001, 2211, 2212, 2307, 2308, 1 << 30, Integer.MAX_VALUE - 1, Integer.MAX_VALUE
    };

    private static final Check CHECK = new Check();

    public static void main(String[] args) {
        for (int height : NUMBERS) {
            for (int reserve : NUMBERS) {
                ends("a new object of " + height + ", " + reserve, () -> looks(new LeafSigner(height, reserve), 0));
            }
        }
        sweep("OFF", () -> new LeafSigner(2, 8));
        sweep("UP", () -> Bench.keyed(2, 3, 1));
        sweep("signed", NeverThrowsTest::signed);
        sweep("DOWN", NeverThrowsTest::down);
        sweep("spent", NeverThrowsTest::spent);
        CHECK.finish();
    }

    private static void sweep(String what, Supplier<LeafSigner> make) {
        LeafSigner x = make.get();
        for (int a : NUMBERS) {
            ends(what + ", looks with " + a, () -> looks(x, a));
            ends(what + ", changes with " + a, () -> changes(make.get(), a));
        }
    }

    private static void ends(String what, Runnable calls) {
        boolean ended = false;
        try {
            calls.run();
            ended = true;
        } catch (RuntimeException e) {
            e.printStackTrace(System.out);
        }
        CHECK.due(what, ended, true);
    }

    private static void looks(LeafSigner x, int a) {
        x.verify(a);
        x.leaf(a);
        x.about(a);
        x.disk(a);
        x.out(a);
        for (int b : NUMBERS) {
            x.alter(a, b);
            x.node(a, b, b);
            x.node(b, a, b);
            x.node(b, b, a);
            x.node(0, a, b);
            x.node(b, 0, a);
        }
    }

    /** Each call that may change something, before and after the others. */
    private static void changes(LeafSigner x, int a) {
        for (int t = 0; t < 4; t++) {
            x.feed(a, ~a, -a, a >>> 1, a << 1);
            x.fuse(a);
            x.sign(a);
            x.hold();
            x.alter(a, a);
            x.verify(a);
            x.verify(0);
            x.fall();
            x.sign(0);
            x.rise();
            x.feed(a, a, a, a, a);
            x.keys();
            x.sign(20);
        }
    }

    private static LeafSigner signed() {
        LeafSigner x = Bench.keyed(2, 3, 1);
        x.sign(0);
        x.hold();
        Bench.feed(x, 2, 10);
        return x;
    }

    private static LeafSigner down() {
        LeafSigner x = signed();
        x.fall();
        return x;
    }

    private static LeafSigner spent() {
        LeafSigner x = signed();
        Bench.signTimes(x, 4);
        return x;
    }
}
