import java.util.Random;

/** Random runs of calls, edges and wrong numbers among them: every answer against the model's. */
public final class RandomRunsTest {
    private static final int[] ODD = {Integer.MIN_VALUE, Integer.MAX_VALUE, -2, -1, 0, 1, 255, 256, 1 << 30, -1 << 31};

    private final Random random;
    private final Check check;
    private final LeafSigner real;
    private final Model model;
    private final String name;

    private RandomRunsTest(long seed, Check check) {
        random = new Random(seed);
        this.check = check;
        int height = seed % 7 == 0 ? odd() : random.nextInt(6);
        int reserve = seed % 7 == 0 ? odd() : random.nextInt(11);
        name = "run " + seed + " (" + height + ", " + reserve + "): ";
        real = new LeafSigner(height, reserve);
        model = new Model(height, reserve);
    }

    public static void main(String[] args) {
        Check check = new Check();
        for (long seed = 1; seed <= 100 && !check.isWrong(); seed++) {
            RandomRunsTest run = new RandomRunsTest(seed, check);
            if (seed % 4 != 0) {
                run.feedKeys();
            }
            for (int call = 0; call < 400 && !check.isWrong(); call++) {
                run.step();
            }
            run.compareAll();
        }
        check.finish();
    }

    private int odd() {
        return ODD[random.nextInt(ODD.length)];
    }

    /** Mostly a number below the bound, sometimes just outside of it or far away. */
    private int near(int bound) {
        int kind = random.nextInt(12);
        return kind == 0 ? odd() : kind == 1 ? bound : kind == 2 ? -1 : random.nextInt(Math.max(1, bound));
    }

    private void feedOnce() {
        int a = random.nextInt();
        int b = random.nextInt();
        int c = random.nextInt();
        int d = odd();
        int e = random.nextInt();
        check.due(name + "feed", real.feed(a, b, c, d, e), model.feed(a, b, c, d, e));
    }

    private void feedKeys() {
        for (int k = 0; k < 5; k++) {
            feedOnce();
        }
        check.due(name + "keys", real.keys(), model.keys());
    }

    private void step() {
        int k;
        switch (random.nextInt(22)) {
            case 0: case 1:
                feedOnce();
                break;
            case 2:
                if (random.nextInt(12) == 0) {
                    feedKeys();
                } else if (random.nextInt(4) == 0) {
                    check.due(name + "keys", real.keys(), model.keys());
                }
                break;
            case 3: case 4: case 5:
                k = random.nextInt(4) == 0 ? near(200) : near(model.about(7) + 1);
                check.due(name + "sign " + k, real.sign(k), model.sign(k));
                break;
            case 6:
                k = random.nextInt(4) == 0 ? near(1001) : near(30);
                check.due(name + "fuse " + k, real.fuse(k), model.fuse(k));
                break;
            case 7:
                check.due(name + "fall", real.fall(), model.fall());
                break;
            case 8: case 9:
                check.due(name + "rise", real.rise(), model.rise());
                break;
            case 10:
                check.due(name + "hold", real.hold(), model.hold());
                break;
            case 11:
                alterBack();
                break;
            case 12: case 13:
                k = near(model.about(7) + 1);
                check.due(name + "verify " + k, real.verify(k), model.verify(k));
                break;
            case 14:
                signHoldVerify();
                break;
            default:
                look();
        }
    }

    private void alterBack() {
        int k = random.nextInt(3) == 0 ? random.nextInt(5) : near(2180 + 32 * model.about(10));
        int mask = random.nextInt(3) == 0 ? odd() : 1 << random.nextInt(8);
        check.due(name + "alter " + k, real.alter(k, mask), model.alter(k, mask));
        check.due(name + "verify 0", real.verify(0), model.verify(0));
        if (random.nextInt(4) != 0) {
            check.due(name + "alter " + k, real.alter(k, mask), model.alter(k, mask));
        }
    }

    private void signHoldVerify() {
        int n = model.about(7);
        check.due(name + "sign", real.sign(n), model.sign(n));
        check.due(name + "hold", real.hold(), model.hold());
        check.due(name + "verify 0", real.verify(0), model.verify(0));
    }

    private void look() {
        int k = near(16);
        check.due(name + "leaf " + k, real.leaf(k), model.leaf(k));
        k = near(12);
        check.due(name + "about " + k, real.about(k), model.about(k));
        k = near(24);
        check.due(name + "disk " + k, real.disk(k), model.disk(k));
        k = near(2308);
        check.due(name + "out " + k, real.out(k), model.out(k));
        int t = near(5);
        int i = near(1 << Math.max(0, Math.min(4, 4 - t)));
        k = near(32);
        check.due(name + "node " + t + " " + i + " " + k, real.node(t, i, k), model.node(t, i, k));
    }

    private void compareAll() {
        for (int k = -2; k < 2400; k++) {
            check.due(name + "out " + k, real.out(k), model.out(k));
            check.due(name + "held " + k, real.alter(k, 0), model.alter(k, 0));
        }
        for (int k = -2; k < 30; k++) {
            check.due(name + "disk " + k, real.disk(k), model.disk(k));
            check.due(name + "about " + k, real.about(k), model.about(k));
            check.due(name + "leaf " + k, real.leaf(k), model.leaf(k));
        }
        for (int t = -1; t < 6; t++) {
            for (int i = -1; i < 17; i++) {
                for (int k = -1; k < 33; k++) {
                    check.due(name + "node " + t + " " + i + " " + k, real.node(t, i, k), model.node(t, i, k));
                }
            }
        }
    }
}
