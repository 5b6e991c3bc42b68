/** Each promise of the document by itself: ordinary inputs, its edges, and wrong inputs. */
public final class PromisesTest {
    private static final int MIN = Bench.MIN;
    private static final int MAX = Bench.MAX;
    private static final int[] WHOLE_SIZE = {0, 2212, 2244, 2276, 2308};

    private static final Check CHECK = new Check();
    private static String promise = "";

    public static void main(String[] args) {
        newObject();
        feed();
        keys();
        keysAgain();
        signRefuses();
        signEmptiesTape();
        signReserves();
        signIsOfRfc();
        fuse();
        fuseStays();
        everyTornWrite();
        fall();
        rise();
        hold();
        alter();
        verify();
        verifyEveryByte();
        verifyOtherKeys();
        leaf();
        about();
        disk();
        node();
        out();
        CHECK.finish();
    }

    private static void due(String what, long got, long want) {
        CHECK.due("promise " + promise + ": " + what, got, want);
    }

    private static void due(String what, boolean got, boolean want) {
        CHECK.due("promise " + promise + ": " + what, got, want);
    }

    private static void dueSlot(String what, LeafSigner x, int slot, int first, int limit, int again) {
        int[] words = {first, limit, again};
        for (int k = 0; k < 12; k++) {
            int want = (words[k / 4] >>> (24 - 8 * (k % 4))) & 255;
            due(what + ", byte " + k + " of slot " + slot, x.disk(12 * slot + k), want);
        }
    }

    private static void newObject() {
        promise = "1";
        int[] given = {MIN, -1, 0, 1, 2, 3, 4, 5, 8, 9, MAX};
        for (int height : given) {
            for (int reserve : given) {
                LeafSigner x = new LeafSigner(height, reserve);
                due("height", x.about(10), Math.max(1, Math.min(4, height)));
                due("reserve", x.about(11), Math.max(1, Math.min(8, reserve)));
            }
        }
        LeafSigner x = new LeafSigner(3, 3);
        int[] want = {0, -1, -1, 0, 0, 0, -1, 0, 0, 0, 3, 3};
        for (int k = 0; k < want.length; k++) {
            due("about " + k, x.about(k), want[k]);
        }
        for (int k = 0; k < 24; k++) {
            due("disk", x.disk(k), 0);
        }
        due("out", x.out(0), -1);
    }

    private static void feed() {
        promise = "2";
        LeafSigner x = new LeafSigner(1, 1);
        for (int t = 1; t <= 10; t++) {
            due("feed", x.feed(t, MIN, MAX, -1, 0), 20 * t);
            due("on the tape", x.about(7), 20 * t);
        }
        due("feed beyond 200", x.feed(1, 2, 3, 4, 5), LeafSigner.NONE);
        due("on the tape then", x.about(7), 200);
        due("keys of a full tape", x.keys(), true);
        due("feed again", x.feed(1, 2, 3, 4, 5), 20);
    }

    private static void keys() {
        promise = "3";
        LeafSigner x = new LeafSigner(2, 2);
        due("keys of nothing", x.keys(), false);
        Bench.feed(x, 1, 4);
        due("keys of 80", x.keys(), false);
        due("nothing done: the tape", x.about(7), 80);
        due("nothing done: the state", x.about(0), 0);
        due("still never keyed", x.verify(0), -3);
        x.feed(Bench.word(1, 20), Bench.word(1, 21), Bench.word(1, 22), Bench.word(1, 23), 77);
        due("keys of 100", x.keys(), true);
        due("the tape is empty", x.about(7), 0);
        due("up", x.about(0), 1);
        due("next", x.about(1), 0);
        due("end", x.about(2), 0);
        byte[] root = Bench.rfc(2, 1).root();
        for (int k = 0; k < 32; k++) {
            due("root", x.node(2, 0, k), root[k] & 255);
        }
    }

    private static void keysAgain() {
        promise = "3";
        LeafSigner x = Bench.keyed(2, 3, 2);
        due("sign", x.sign(0), 0);
        x.hold();
        due("fall", x.fall(), true);
        due("fuse", x.fuse(40), true);
        due("too few", x.keys(), false);
        due("still down", x.about(0), 2);
        due("still lost", x.leaf(1), 3);
        Bench.feed(x, 3, 6);
        due("keys again", x.keys(), true);
        due("up", x.about(0), 1);
        due("the fuse stays", x.about(6), 40);
        due("written ever", x.about(5), 12);
        due("released", x.about(3), 0);
        due("lost", x.about(4), 0);
        due("the tape is empty", x.about(7), 0);
        due("OUT stays", x.about(8), 2244);
        due("HELD stays", x.about(9), 2244);
        for (int k = 0; k < 24; k++) {
            due("disk", x.disk(k), 0);
        }
        for (int i = 0; i < 4; i++) {
            due("leaf", x.leaf(i), 0);
        }
        byte[] root = Bench.rfc(2, 3).root();
        for (int k = 0; k < 32; k++) {
            due("the root of the new keys", x.node(2, 0, k), root[k] & 255);
        }
        due("the first leaf again", x.sign(0), 0);
        dueSlot("after it", x, 1, 1, 3, 1);
        Bench.feed(x, 4, 5);
        due("keys while up", x.keys(), true);
        due("nothing reserved", x.about(2), 0);
    }

    private static void signRefuses() {
        promise = "4";
        LeafSigner x = new LeafSigner(1, 1);
        Bench.feed(x, 1, 1);
        due("off", x.sign(20), -3);
        due("off and too many", x.sign(21), -2);
        due("off and below 0", x.sign(-1), -2);
        due("the tape stays", x.about(7), 20);
        x = Bench.keyed(1, 1, 5);
        Bench.feed(x, 1, 1);
        for (int n : new int[] {-1, MIN, 21, MAX}) {
            due("sign " + n, x.sign(n), -2);
        }
        due("the tape stays", x.about(7), 20);
        due("nothing reserved", x.about(2), 0);
        x.fall();
        due("down", x.sign(0), -3);
        due("down and too many", x.sign(21), -2);
        due("the tape stays", x.about(7), 20);
        due("OUT stays empty", x.about(8), 0);
    }

    private static void signEmptiesTape() {
        promise = "4";
        LeafSigner x = Bench.keyed(1, 2, 6);
        Bench.feed(x, 1, 2);
        due("sign", x.sign(7), 0);
        due("the tape at a leaf", x.about(7), 0);
        due("sign", x.sign(0), 1);
        int last = x.out(3);
        Bench.feed(x, 1, 2);
        due("every leaf is released", x.sign(40), -4);
        due("the tape at -4", x.about(7), 0);
        due("OUT stays at -4", x.out(3), last);
        due("and has its size", x.about(8), 2212);
        due("still up", x.about(0), 1);
        x = Bench.keyed(1, 1, 6);
        due("sign", x.sign(0), 0);
        int random = x.out(4);
        x.fuse(5);
        Bench.feed(x, 1, 3);
        due("it fell", x.sign(1), -5);
        due("the tape at -5", x.about(7), 0);
        due("OUT stays at -5", x.out(4), random);
        due("and has its size", x.about(8), 2212);
        due("down", x.about(0), 2);
    }

    private static void signReserves() {
        promise = "4";
        for (int height = 1; height <= 4; height++) {
            for (int reserve = 1; reserve <= 8; reserve++) {
                LeafSigner x = Bench.keyed(height, reserve, 7);
                int leaves = 1 << height;
                for (int i = 0; i < leaves; i++) {
                    due("sign", x.sign(0), i);
                    int times = i / reserve + 1;
                    due("next", x.about(1), i + 1);
                    due("end", x.about(2), Math.min(leaves, times * reserve));
                    due("written", x.about(5), 12 * times);
                    dueSlot("reserved", x, times % 2, times, Math.min(leaves, times * reserve), times);
                }
                due("no more", x.sign(0), -4);
                due("released", x.about(3), leaves);
            }
        }
    }

    private static void signIsOfRfc() {
        promise = "4";
        for (int height = 1; height <= 4; height++) {
            LeafSigner x = Bench.keyed(height, 3, 10 + height);
            Rfc rfc = Bench.rfc(height, 10 + height);
            int[] sizes = {0, 1, 3, 4, 55, 56, 63, 64, 119, 120, 127, 128, 183, 184, 199, 200};
            for (int i = 0; i < (1 << height); i++) {
                int n = sizes[(i * 5 + height) % sizes.length];
                Bench.feed(x, i, 10);
                due("sign", x.sign(n), i);
                byte[] want = rfc.sign(i, Bench.bytes(i, n));
                due("size", x.about(8), WHOLE_SIZE[height]);
                for (int k = 0; k < want.length; k++) {
                    due("byte " + k + " of leaf " + i, x.out(k), want[k] & 255);
                }
            }
        }
    }

    private static void fuse() {
        promise = "5";
        LeafSigner x = new LeafSigner(2, 2);
        for (int k : new int[] {-2, 1001, MIN, MAX}) {
            due("fuse " + k, x.fuse(k), false);
            due("nothing done", x.about(6), -1);
        }
        for (int k : new int[] {0, 1000, 1, 999}) {
            due("fuse " + k, x.fuse(k), true);
            due("left", x.about(6), k);
        }
        due("a wrong one", x.fuse(1001), false);
        due("the old one stays", x.about(6), 999);
        due("none any more", x.fuse(LeafSigner.NONE), true);
        due("left", x.about(6), -1);
        x = Bench.keyed(2, 1, 8);
        x.fuse(3);
        x.fuse(30);
        due("sign with the later fuse", x.sign(0), 0);
        due("left", x.about(6), 18);
        due("sign", x.sign(0), 1);
        due("left", x.about(6), 6);
        due("sign", x.sign(0), -5);
        due("the fuse is gone", x.about(6), -1);
        due("written", x.about(5), 30);
        x.rise();
        due("sign without a fuse", x.sign(0), 2);
    }

    private static void fuseStays() {
        promise = "5";
        LeafSigner x = new LeafSigner(2, 1);
        x.fuse(14);
        Bench.feed(x, 8, 5);
        x.keys();
        due("left after keys", x.about(6), 14);
        due("sign", x.sign(0), 0);
        x.fall();
        due("left when down", x.about(6), 2);
        x.rise();
        due("left when up", x.about(6), 2);
        due("sign", x.sign(0), -5);
        dueSlot("torn", x, 0, 0, 0, 0);
        due("written", x.about(5), 14);
        x.fuse(12);
        x.rise();
        due("a fuse set when down", x.about(6), 12);
        due("sign", x.sign(0), 1);
        due("left", x.about(6), 0);
        due("sign", x.sign(0), -5);
    }

    /** Wherever the machine falls, no leaf signs twice, and the journal is the one before or the one after. */
    private static void everyTornWrite() {
        promise = "5";
        for (int reserve = 1; reserve <= 8; reserve++) {
            for (int k = 0; k <= 60; k++) {
                LeafSigner x = Bench.keyed(3, reserve, 9);
                x.fuse(k);
                boolean fell = false;
                int last = -1;
                for (int call = 0; call < 20; call++) {
                    int end = x.about(2);
                    int got = x.sign(0);
                    if (got == -5) {
                        due("only one fuse", fell, false);
                        fell = true;
                        due("down", x.about(0), 2);
                        due("written", x.about(5), k);
                        due("rise", x.rise(), true);
                        due("end is as before", x.about(2), end);
                        due("next is end", x.about(1), end);
                    } else if (got >= 0) {
                        due("a new leaf", got, last + 1);
                        last = got;
                    }
                }
                int writes = (8 + reserve - 1) / reserve;
                due("fell", fell, k < 12 * writes);
                due("all released", x.about(3), 8);
            }
        }
    }

    private static void fall() {
        promise = "6";
        LeafSigner x = new LeafSigner(3, 4);
        due("off", x.fall(), false);
        due("still off", x.about(0), 0);
        x = Bench.keyed(3, 4, 12);
        Bench.feed(x, 1, 1);
        x.sign(0);
        x.hold();
        x.sign(0);
        Bench.feed(x, 1, 2);
        due("fall", x.fall(), true);
        due("down", x.about(0), 2);
        due("next is gone", x.about(1), -1);
        due("end is gone", x.about(2), -1);
        int[] fates = {2, 2, 3, 3, 0, 0, 0, 0};
        for (int i = 0; i < 8; i++) {
            due("leaf " + i, x.leaf(i), fates[i]);
        }
        due("the tape stays", x.about(7), 40);
        due("OUT stays", x.about(8), 2276);
        due("HELD stays", x.about(9), 2276);
        dueSlot("the disk stays", x, 1, 1, 4, 1);
        due("fall again", x.fall(), false);
        due("still down", x.about(0), 2);
        due("lost", x.about(4), 2);
    }

    private static void rise() {
        promise = "7";
        LeafSigner x = new LeafSigner(3, 3);
        due("off", x.rise(), false);
        due("still off", x.about(0), 0);
        x = Bench.keyed(3, 3, 13);
        due("up", x.rise(), false);
        due("still up", x.about(0), 1);
        x.fall();
        due("rise without a slot", x.rise(), true);
        due("up again", x.about(0), 1);
        due("next", x.about(1), 0);
        due("end", x.about(2), 0);
        due("sign", x.sign(0), 0);
        due("up", x.rise(), false);
        due("next is as it was", x.about(1), 1);
        int[] ends = {3, 6, 8};
        for (int t = 0; t < 3; t++) {
            x.fall();
            due("rise", x.rise(), true);
            due("next", x.about(1), ends[t]);
            due("end", x.about(2), ends[t]);
            due("sign", x.sign(0), t < 2 ? ends[t] : -4);
        }
        due("released", x.about(3), 3);
        due("lost", x.about(4), 5);
        dueSlot("the last", x, 1, 3, 8, 3);
        dueSlot("the last but one", x, 0, 2, 6, 2);
    }

    private static void hold() {
        promise = "8";
        LeafSigner x = Bench.keyed(2, 2, 14);
        due("an empty OUT", x.hold(), 0);
        due("HELD", x.about(9), 0);
        x.sign(0);
        due("nothing is held yet", x.about(9), 0);
        due("hold", x.hold(), 2244);
        due("HELD", x.about(9), 2244);
        for (int k = 0; k < 2244; k++) {
            due("byte " + k, x.alter(k, 0), x.out(k));
        }
        x.sign(0);
        due("HELD is the old one", x.alter(3, 0), 0);
        x.alter(3, 255);
        due("OUT is not altered", x.out(3), 1);
        due("hold", x.hold(), 2244);
        due("HELD is the new one", x.alter(3, 0), 1);
    }

    private static void alter() {
        promise = "9";
        LeafSigner x = Bench.keyed(1, 1, 15);
        due("nothing held", x.alter(0, 1), -1);
        x.sign(0);
        due("still nothing held", x.alter(0, 1), -1);
        x.hold();
        for (int k : new int[] {-1, MIN, 2212, MAX}) {
            due("alter " + k, x.alter(k, 1), -1);
        }
        for (int k : new int[] {0, 1, 2, 3, 4, 5, 6, 7, 1000, 2211}) {
            int old = x.out(k);
            due("alter", x.alter(k, 0x5A), old ^ 0x5A);
            due("the lowest 8 bits alone", x.alter(k, 0x12345600), old ^ 0x5A);
            due("and all of them", x.alter(k, -1), old ^ 0x5A ^ 255);
            due("back", x.alter(k, 0xA5), old);
        }
        for (int k = 0; k < 2212; k++) {
            due("no other byte is altered", x.alter(k, 0), x.out(k));
        }
    }

    private static void verify() {
        promise = "10";
        LeafSigner x = new LeafSigner(2, 2);
        due("never keys", x.verify(0), -3);
        due("never keys, too many", x.verify(1), -2);
        due("never keys, below 0", x.verify(-1), -2);
        Bench.feed(x, 16, 5);
        x.keys();
        due("nothing held", x.verify(0), 0);
        Bench.feed(x, 1, 10);
        for (int n : new int[] {-1, MIN, 201, MAX}) {
            due("verify " + n, x.verify(n), -2);
        }
        x.sign(150);
        x.hold();
        Bench.feed(x, 1, 10);
        due("as signed", x.verify(150), 1);
        due("less", x.verify(149), 0);
        due("more", x.verify(151), 0);
        due("all", x.verify(200), 0);
        due("nothing", x.verify(0), 0);
        due("the tape stays", x.about(7), 200);
        x.fall();
        due("when down", x.verify(150), 1);
        x.rise();
        x.sign(200);
        due("an empty tape", x.verify(0), 0);
        x.hold();
        Bench.feed(x, 1, 10);
        due("the whole tape", x.verify(200), 1);
        due("but for a byte", x.verify(199), 0);
    }

    private static void verifyEveryByte() {
        promise = "10";
        LeafSigner x = Bench.keyed(3, 8, 17);
        for (int i = 0; i < 8; i++) {
            x.sign(0);
            x.hold();
            due("leaf " + i, x.verify(0), 1);
            for (int k = i; k < 2276; k += k < 40 || k > 2170 ? 1 : 9) {
                x.alter(k, 1 << (k % 8));
                due("altered " + k, x.verify(0), 0);
                x.alter(k, 1 << (k % 8));
            }
            due("unaltered " + i, x.verify(0), 1);
        }
    }

    private static void verifyOtherKeys() {
        promise = "10";
        LeafSigner x = Bench.keyed(1, 2, 18);
        x.sign(0);
        x.hold();
        due("its own keys", x.verify(0), 1);
        Bench.feed(x, 19, 5);
        x.keys();
        due("other keys", x.verify(0), 0);
        Bench.feed(x, 18, 5);
        x.keys();
        due("the first keys again", x.verify(0), 1);
        due("no leaf was used", x.leaf(0), 0);
    }

    private static void leaf() {
        promise = "11";
        LeafSigner x = new LeafSigner(2, 3);
        due("never keys", x.leaf(0), -1);
        Bench.feed(x, 20, 5);
        x.keys();
        for (int i : new int[] {-1, MIN, 4, 16, MAX}) {
            due("leaf " + i, x.leaf(i), -1);
        }
        dueLeaves(x, 0, 0, 0, 0);
        x.sign(0);
        dueLeaves(x, 2, 1, 1, 0);
        x.sign(0);
        dueLeaves(x, 2, 2, 1, 0);
        x.fall();
        dueLeaves(x, 2, 2, 3, 0);
        x.rise();
        dueLeaves(x, 2, 2, 3, 0);
        x.fuse(11);
        x.sign(0);
        dueLeaves(x, 2, 2, 3, 0);
        x.rise();
        x.sign(0);
        dueLeaves(x, 2, 2, 3, 2);
    }

    private static void dueLeaves(LeafSigner x, int... fates) {
        for (int i = 0; i < fates.length; i++) {
            due("leaf " + i, x.leaf(i), fates[i]);
        }
    }

    private static void about() {
        promise = "12";
        LeafSigner x = Bench.keyed(4, 5, 21);
        x.sign(0);
        x.sign(0);
        x.hold();
        x.fall();
        x.rise();
        x.sign(0);
        x.fuse(500);
        Bench.feed(x, 1, 3);
        dueAbout(x, 1, 6, 10, 3, 3, 24, 500, 60, 2308, 2308, 4, 5);
        x.fall();
        dueAbout(x, 2, -1, -1, 3, 7, 24, 500, 60, 2308, 2308, 4, 5);
        for (int what : new int[] {-1, MIN, 12, MAX}) {
            due("about " + what, x.about(what), -1);
        }
    }

    private static void dueAbout(LeafSigner x, int... want) {
        for (int what = 0; what < want.length; what++) {
            due("about " + what, x.about(what), want[what]);
        }
    }

    private static void disk() {
        promise = "13";
        LeafSigner x = Bench.keyed(4, 1, 22);
        for (int k : new int[] {-1, MIN, 24, MAX}) {
            due("disk " + k, x.disk(k), -1);
        }
        x.sign(0);
        dueSlot("first", x, 1, 1, 1, 1);
        dueSlot("first", x, 0, 0, 0, 0);
        x.sign(0);
        x.sign(0);
        dueSlot("third", x, 0, 2, 2, 2);
        dueSlot("third", x, 1, 3, 3, 3);
        x.fuse(6);
        x.sign(0);
        dueSlot("torn in LIMIT", x, 0, 4, 2, 2);
        x.rise();
        due("END of the whole one", x.about(2), 3);
        x.fuse(11);
        x.sign(0);
        dueSlot("torn in SEQ", x, 0, 4, 4, 2);
        x.rise();
        due("END of the whole one", x.about(2), 3);
        due("sign", x.sign(0), 3);
        dueSlot("whole again", x, 0, 4, 4, 4);
    }

    private static void node() {
        promise = "14";
        LeafSigner x = new LeafSigner(3, 1);
        due("never keys", x.node(0, 0, 0), -1);
        for (int height = 1; height <= 4; height++) {
            x = Bench.keyed(height, 1, 23);
            Rfc rfc = Bench.rfc(height, 23);
            for (int t = 0; t <= height; t++) {
                int count = 1 << (height - t);
                for (int i = 0; i < count; i++) {
                    for (int k = 0; k < 32; k++) {
                        due("node " + t + " " + i + " " + k, x.node(t, i, k), rfc.node(t, i)[k] & 255);
                    }
                }
                for (int wrong : new int[] {-1, MIN, MAX}) {
                    due("byte " + wrong, x.node(t, 0, wrong), -1);
                    due("node " + wrong, x.node(t, wrong, 0), -1);
                    due("height " + wrong, x.node(wrong, 0, 0), -1);
                }
                due("byte 32", x.node(t, 0, 32), -1);
                due("one node more", x.node(t, count, 0), -1);
            }
            due("one height more", x.node(height + 1, 0, 0), -1);
            due("a height beyond the shifts", x.node(32 + height, 0, 0), -1);
            x.fall();
            due("when down", x.node(0, 1, 5), rfc.node(0, 1)[5] & 255);
        }
    }

    private static void out() {
        promise = "15";
        for (int height = 1; height <= 4; height++) {
            LeafSigner x = Bench.keyed(height, 2, 24);
            due("empty", x.out(0), -1);
            x.sign(0);
            byte[] want = Bench.rfc(height, 24).sign(0, new byte[0]);
            int size = WHOLE_SIZE[height];
            for (int k = 0; k < size; k++) {
                due("out " + k, x.out(k), want[k] & 255);
            }
            for (int k : new int[] {-1, MIN, size, MAX}) {
                due("out " + k, x.out(k), -1);
            }
        }
    }
}
