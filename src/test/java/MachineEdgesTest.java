import java.nio.ByteBuffer;

/** The edges of the journal and of the calls that reserve, release, fall and rise (PART 2, promises 4 to 7). */
public final class MachineEdgesTest {
    private static final int MIN = Bench.MIN;
    private static final int MAX = Bench.MAX;

    private final Edges edges;

    private MachineEdgesTest(Edges edges) {
        this.edges = edges;
    }

    public static void main(String[] args) throws Exception {
        Edges edges = new Edges();
        MachineEdgesTest test = new MachineEdgesTest(edges);
        test.slots();
        test.reserving();
        test.falling();
        test.sign();
        test.fuse();
        test.fallAndRise();
        edges.finish();
    }

    private void slots() {
        edges.edge("PART 2", "SEQ (4 bytes, the highest first), LIMIT (4), SEQ again (4)", this::slotOfThreeNumbers);
        edges.edge("PART 2", "A SLOT is whole if both SEQS are alike and above 0", this::tornSlotIsNotWhole);
        edges.edge("PART 2", "Bytes are written one by one, in their order", this::everyTornDisk);
        edges.edge("PART 2", "the (k + 1)-th byte that is to be written from then on isn't, and the machine falls",
            this::fuseCountsFromThenOn);
    }

    private void reserving() {
        edges.edge("PART 2", "if NEXT is END and END below 2 to h, it reserves", this::reservesOnlyThen);
        edges.edge("PART 2", "the SLOT with the number (SEQ + 1) modulo 2 gets SEQ + 1", this::slotsTakeTurns);
        edges.edge("PART 2", "LIMIT: the lesser of END + R and 2 to h", this::limitIsTheLesser);
        edges.edge("PART 2", "where SEQ is that of the latest whole SLOT (0 without)", this::sequenceAfterTornWrites);
        edges.edge("PART 2", "when that is written END is LIMIT", this::endOnlyWhenWritten);
        edges.edge("PART 2", "Then leaf NEXT signs, and NEXT is one more", this::nextIsOneMore);
    }

    private void falling() {
        edges.edge("What it is", "no leaf is used twice, wherever the machine falls", this::noLeafTwice);
        edges.edge("PART 2", "A machine that falls is DOWN: what it had but the disk and the KEYS is gone",
            this::fallenHasDiskAndKeys);
        edges.edge("PART 2", "leaves that were reserved (below END) and not released are lost from then on",
            this::reservedLeavesAreLost);
        edges.edge("PART 2", "SEQ and END are of the whole SLOT with the greater SEQ", this::greaterSequenceWins);
        edges.edge("PART 2", "(0, 0 without any), and NEXT is END", this::risesWithoutSlot);
    }

    private void sign() {
        edges.edge("promise 4", "OUT is the SIGNATURE of n bytes of the tape (the first ones", this::signOfFirstBytes);
        edges.edge("promise 4", "it's empty then, at -4 and -5 too", this::signEmptiesTape);
        edges.edge("promise 4", "-2, doing nothing: n is below 0 or more than there are", this::signOfWrongCount);
        edges.edge("promise 4", "-3, doing nothing: it isn't UP", this::signWhenNotUp);
        edges.edge("promise 4", "-4: every leaf is released or lost (OUT stays)", this::signWithoutLeaf);
        edges.edge("promise 4", "-5: it fell as it reserved (OUT stays)", this::signThatFalls);
    }

    private void fuse() {
        edges.edge("promise 5", "A FUSE of k bytes (0 to 1000) is set", this::shortestAndLongestFuse);
        edges.edge("promise 5", "in place of one that was", this::fuseInPlace);
        edges.edge("promise 5", "NONE: there is none any more", this::fuseTakenAway);
        edges.edge("promise 5", "False, doing nothing: another k", this::wrongFuse);
    }

    private void fallAndRise() {
        edges.edge("promise 6", "False, doing nothing: it isn't UP", this::fallWhenNotUp);
        edges.edge("promise 7", "It comes UP again", this::risesAgainAndAgain);
        edges.edge("promise 7", "False, doing nothing: it isn't DOWN", this::riseWhenNotDown);
    }

    private void slotOfThreeNumbers() {
        LeafSigner x = Bench.keyed(4, 8, 1);
        x.sign(0);
        int[] want = {0, 0, 0, 1, 0, 0, 0, 8, 0, 0, 0, 1};
        for (int k = 0; k < 12; k++) {
            edges.due("byte " + k + " of slot 1", x.disk(12 + k), want[k]);
            edges.due("byte " + k + " of slot 0", x.disk(k), 0);
        }
        Bench.signTimes(x, 8);
        edges.due("LIMIT of all leaves", Bench.disk(x), Bench.words(2, 16, 2, 1, 8, 1));
    }

    /** A slot torn behind LIMIT has the new LIMIT, and must not be believed. */
    private void tornSlotIsNotWhole() {
        for (int before = 0; before <= 3; before++) {
            for (int k = 0; k < 12; k++) {
                LeafSigner x = Bench.keyed(2, 1, 2);
                Bench.signTimes(x, before);
                x.fuse(k);
                edges.due("sign", x.sign(0), -5);
                x.rise();
                edges.due("END behind " + before + " whole ones and " + k + " bytes", x.about(2), before);
            }
        }
    }

    private void everyTornDisk() {
        for (int reserve = 1; reserve <= 3; reserve += 2) {
            for (int k = 0; k < 48 / reserve; k++) {
                LeafSigner x = Bench.keyed(2, reserve, 3);
                x.fuse(k);
                int calls = 0;
                while (x.about(0) == 1 && calls < 5) {
                    x.sign(0);
                    calls++;
                }
                boolean falls = k < 12 * ((4 + reserve - 1) / reserve);
                edges.due("a fuse of " + k + ", R " + reserve, x.about(0), falls ? 2 : 1);
                edges.due("the disk then", Bench.disk(x), diskOfFirstBytes(Math.min(k, 48), reserve));
                edges.due("bytes written", x.about(5), k);
            }
        }
    }

    /** What the disk of a tree of four leaves holds behind so many bytes. */
    private static String diskOfFirstBytes(int count, int reserve) {
        byte[] disk = new byte[24];
        for (int k = 0; k < count; k++) {
            int seq = k / 12 + 1;
            byte[] slot = ByteBuffer.allocate(12).putInt(seq).putInt(Math.min(4, seq * reserve)).putInt(seq).array();
            disk[12 * (seq % 2) + k % 12] = slot[k % 12];
        }
        ByteBuffer all = ByteBuffer.wrap(disk);
        return Bench.words(all.getInt(), all.getInt(), all.getInt(), all.getInt(), all.getInt(), all.getInt());
    }

    private void fuseCountsFromThenOn() {
        LeafSigner x = Bench.keyed(3, 1, 4);
        x.sign(0);
        x.fuse(0);
        edges.due("the very next byte", x.sign(0), -5);
        edges.due("DOWN", x.about(0), 2);
        edges.due("isn't written", x.about(5), 12);
        edges.due("the fuse is gone", x.about(6), -1);
        x.rise();
        x.fuse(12);
        edges.due("as many as a slot has", x.sign(0), 1);
        edges.due("all are written", Bench.disk(x), Bench.words(2, 2, 2, 1, 1, 1));
        edges.due("UP", x.about(0), 1);
        edges.due("left", x.about(6), 0);
        edges.due("the next slot's first byte", x.sign(0), -5);
        edges.due("isn't written", Bench.disk(x), Bench.words(2, 2, 2, 1, 1, 1));
        x.rise();
        edges.due("the bytes behind are written", x.sign(0), 2);
        x.fuse(13);
        edges.due("one more than a slot has", x.sign(0), 3);
        edges.due("left", x.about(6), 1);
        edges.due("the next slot's second byte", x.sign(0), -5);
        edges.due("bytes written", x.about(5), 49);
    }

    private void reservesOnlyThen() {
        LeafSigner x = Bench.keyed(2, 2, 5);
        edges.due("keys reserve nothing", x.about(2), 0);
        edges.due("NEXT is END at first", x.sign(0), 0);
        edges.due("it reserved", x.about(5), 12);
        x.fuse(0);
        edges.due("NEXT is below END", x.sign(0), 1);
        edges.due("it wrote nothing", x.about(5), 12);
        x.fuse(-1);
        edges.due("NEXT is END", x.sign(0), 2);
        edges.due("it reserved", x.about(5), 24);
        x.sign(0);
        x.fuse(0);
        edges.due("END is 2 to h", x.sign(0), -4);
        edges.due("it wrote nothing", x.about(5), 24);
        edges.due("UP", x.about(0), 1);
        edges.due("the fuse isn't used up", x.about(6), 0);
        x.fall();
        x.rise();
        edges.due("END is 2 to h from the disk", x.sign(0), -4);
        edges.due("it wrote nothing", x.about(5), 24);
    }

    private void slotsTakeTurns() {
        LeafSigner x = Bench.keyed(4, 1, 6);
        for (int seq = 1; seq <= 16; seq++) {
            edges.due("sign", x.sign(0), seq - 1);
            int even = seq - seq % 2;
            int odd = seq - 1 + seq % 2;
            edges.due("SEQ " + seq, Bench.disk(x), Bench.words(even, even, even, odd, odd, odd));
        }
    }

    private void limitIsTheLesser() {
        for (int height = 1; height <= 4; height++) {
            int leaves = 1 << height;
            for (int reserve = 1; reserve <= 8; reserve++) {
                LeafSigner x = Bench.keyed(height, reserve, 7);
                for (int seq = 1; x.sign(0) >= 0; seq++) {
                    int limit = seq * reserve < leaves ? seq * reserve : leaves;
                    edges.due("END for R " + reserve + " of " + leaves, x.about(2), limit);
                    edges.due("LIMIT on the disk", x.disk(12 * (seq % 2) + 7), limit);
                    Bench.signTimes(x, limit - x.about(1));
                }
                edges.due("the last END", x.about(2), leaves);
            }
        }
    }

    private void sequenceAfterTornWrites() {
        LeafSigner x = Bench.keyed(2, 1, 8);
        x.fuse(11);
        x.sign(0);
        edges.due("the first is torn", Bench.disk(x), Bench.words(0, 0, 0, 1, 1, 0));
        x.rise();
        edges.due("sign", x.sign(0), 0);
        edges.due("without a whole one SEQ is 1 again", Bench.disk(x), Bench.words(0, 0, 0, 1, 1, 1));
        x.fuse(8);
        x.sign(0);
        x.rise();
        x.fuse(9);
        x.sign(0);
        edges.due("the second is torn twice", Bench.disk(x), Bench.words(2, 2, 0, 1, 1, 1));
        x.rise();
        edges.due("sign", x.sign(0), 1);
        edges.due("SEQ is 2", Bench.disk(x), Bench.words(2, 2, 2, 1, 1, 1));
        x.fuse(4);
        x.sign(0);
        x.rise();
        edges.due("sign", x.sign(0), 2);
        edges.due("SEQ is 3", Bench.disk(x), Bench.words(2, 2, 2, 3, 3, 3));
    }

    private void endOnlyWhenWritten() {
        LeafSigner x = Bench.keyed(2, 2, 9);
        x.fuse(11);
        x.sign(0);
        edges.due("nothing is reserved but for a byte", Bench.leaves(x), "0000");
        edges.due("nothing is lost", x.about(4), 0);
        x.rise();
        edges.due("END is as it was", x.about(2), 0);
        x.fuse(12);
        x.sign(0);
        edges.due("END is LIMIT with the last byte", x.about(2), 2);
        edges.due("leaves", Bench.leaves(x), "2100");
    }

    private void nextIsOneMore() {
        LeafSigner x = Bench.keyed(2, 3, 10);
        for (int i = 0; i < 4; i++) {
            edges.due("NEXT before", x.about(1), i);
            edges.due("sign", x.sign(0), i);
            edges.due("the leaf in OUT", x.out(3), i);
            edges.due("NEXT", x.about(1), i + 1);
        }
        edges.due("no leaf", x.sign(0), -4);
        edges.due("NEXT stays behind the last", x.about(1), 4);
    }

    /** It falls by a fuse at each byte, then by itself behind each leaf, and rises whenever it is DOWN. */
    private void noLeafTwice() {
        for (int reserve = 1; reserve <= 4; reserve++) {
            for (int k = 0; k <= 48; k++) {
                LeafSigner x = Bench.keyed(2, reserve, 32);
                x.fuse(k);
                int last = -1;
                for (int call = 0; call < 8; call++) {
                    int leaf = x.sign(0);
                    if (leaf >= 0) {
                        edges.due("a leaf above " + last + ", fuse " + k, leaf > last, true);
                        edges.due("it is the one in OUT", x.out(3), leaf);
                        last = leaf;
                    }
                    if (call == k % 5) {
                        x.fall();
                    }
                    x.rise();
                }
                edges.due("no leaf is left", x.sign(0), -4);
                edges.due("each is released or lost", x.about(3) + x.about(4), 4);
            }
        }
    }

    private void fallenHasDiskAndKeys() {
        LeafSigner x = Bench.keyed(2, 3, 11);
        x.sign(0);
        String root = Bench.root(x);
        x.fall();
        edges.due("state, NEXT, END", x.about(0) + " " + x.about(1) + " " + x.about(2), "2 -1 -1");
        edges.due("the disk", Bench.disk(x), Bench.words(0, 0, 0, 1, 3, 1));
        edges.due("the KEYS' root", Bench.root(x), root);
        x.rise();
        edges.due("NEXT was forgotten", x.about(1), 3);
        edges.due("sign", x.sign(0), 3);
        byte[] want = Bench.rfc(2, 11).sign(3, new byte[0]);
        edges.due("by the same KEYS", Bench.out(x), Bench.some(want));
    }

    private void reservedLeavesAreLost() {
        LeafSigner x = Bench.keyed(3, 3, 12);
        x.fall();
        edges.due("nothing reserved, nothing lost", Bench.leaves(x), "00000000");
        x.rise();
        x.sign(0);
        edges.due("reserved", Bench.leaves(x), "21100000");
        x.fall();
        edges.due("lost when DOWN", Bench.leaves(x), "23300000");
        edges.due("how many", x.about(4), 2);
        x.rise();
        edges.due("lost when UP again", Bench.leaves(x), "23300000");
        Bench.signTimes(x, 3);
        x.fall();
        edges.due("all were released, none is lost", Bench.leaves(x), "23322200");
        x.rise();
        x.sign(0);
        x.fuse(0);
        edges.due("the last", x.sign(0), 7);
        x.fall();
        edges.due("none is lost behind the last", Bench.leaves(x), "23322222");
        edges.due("lost, ever", x.about(4), 2);
        edges.due("released, ever", x.about(3), 6);
    }

    private void greaterSequenceWins() {
        LeafSigner x = Bench.keyed(4, 3, 13);
        for (int seq = 1; seq <= 5; seq++) {
            x.sign(0);
            x.fall();
            x.rise();
            int limit = Math.min(16, 3 * seq);
            edges.due("END of SEQ " + seq, x.about(2), limit);
            edges.due("NEXT", x.about(1), limit);
        }
        x = Bench.keyed(4, 3, 13);
        Bench.signTimes(x, 7);
        x.fuse(11);
        Bench.signTimes(x, 3);
        edges.due("slot 0 is torn, its first SEQ the greatest", Bench.disk(x), Bench.words(4, 12, 2, 3, 9, 3));
        x.rise();
        edges.due("END of the whole one", x.about(2), 9);
    }

    private void risesWithoutSlot() {
        LeafSigner x = Bench.keyed(2, 3, 14);
        x.fall();
        edges.due("rise of an empty disk", x.rise(), true);
        edges.due("NEXT, END", x.about(1) + " " + x.about(2), "0 0");
        for (int k = 0; k < 12; k++) {
            x.fuse(k);
            edges.due("it falls", x.sign(0), -5);
            edges.due("rise of a torn slot alone", x.rise(), true);
            edges.due("NEXT, END behind " + k + " bytes", x.about(1) + " " + x.about(2), "0 0");
        }
        edges.due("the first leaf", x.sign(0), 0);
        edges.due("SEQ", Bench.disk(x), Bench.words(0, 0, 0, 1, 3, 1));
    }

    private void signOfFirstBytes() {
        int[] counts = {0, 1, 54, 55, 56, 57, 63, 64, 65, 118, 119, 120, 128, 183, 184, 199, 200};
        for (int n : counts) {
            LeafSigner x = Bench.keyed(1, 2, 15);
            Bench.feed(x, 16, 10);
            edges.due("sign", x.sign(n), 0);
            byte[] want = Bench.rfc(1, 15).sign(0, Bench.bytes(16, n));
            edges.due("the signature of " + n + " of 200", Bench.out(x), Bench.some(want));
            Bench.feed(x, 17, 1);
            edges.due("sign of a shorter tape", x.sign(20), 1);
            want = Bench.rfc(1, 15).sign(1, Bench.bytes(17, 20));
            edges.due("nothing is left of the longer one", Bench.out(x), Bench.some(want));
        }
        LeafSigner x = Bench.keyed(1, 1, 15);
        edges.due("sign of an empty tape", x.sign(0), 0);
        byte[] want = Bench.rfc(1, 15).sign(0, new byte[0]);
        edges.due("the signature of nothing", Bench.out(x), Bench.some(want));
    }

    private void signEmptiesTape() {
        for (int n : new int[] {0, 1, 40}) {
            LeafSigner x = Bench.keyed(1, 1, 18);
            Bench.feed(x, 19, 2);
            edges.due("sign", x.sign(n), 0);
            edges.due("on the tape", x.about(7), 0);
            x.fuse(3);
            Bench.feed(x, 19, 2);
            edges.due("it fell", x.sign(n), -5);
            edges.due("on the tape at -5", x.about(7), 0);
            x.rise();
            x.sign(0);
            Bench.feed(x, 19, 2);
            edges.due("no leaf", x.sign(n), -4);
            edges.due("on the tape at -4", x.about(7), 0);
        }
    }

    private void signOfWrongCount() {
        int[] wrong = {-1, MIN, 41, 201, MAX};
        for (int n : wrong) {
            edges.due("UP, sign " + n, madeUp().sign(n), -2);
            edges.due("DOWN, sign " + n, madeDown().sign(n), -2);
            edges.due("OFF, sign " + n, madeOff().sign(n), -2);
            edges.due("without a leaf, sign " + n, madeSpent().sign(n), -2);
            edges.doesNothing("UP, sign " + n, MachineEdgesTest::madeUp, x -> x.sign(n));
            edges.doesNothing("DOWN, sign " + n, MachineEdgesTest::madeDown, x -> x.sign(n));
            edges.doesNothing("OFF, sign " + n, MachineEdgesTest::madeOff, x -> x.sign(n));
            edges.doesNothing("without a leaf, sign " + n, MachineEdgesTest::madeSpent, x -> x.sign(n));
        }
        edges.due("an empty tape, sign 1", Bench.keyed(1, 1, 20).sign(1), -2);
        edges.due("as many as there are", madeUp().sign(40), 2);
    }

    private void signWhenNotUp() {
        for (int n : new int[] {0, 1, 40}) {
            edges.due("OFF", madeOff().sign(n), -3);
            edges.due("DOWN", madeDown().sign(n), -3);
            edges.doesNothing("OFF, sign " + n, MachineEdgesTest::madeOff, x -> x.sign(n));
            edges.doesNothing("DOWN, sign " + n, MachineEdgesTest::madeDown, x -> x.sign(n));
        }
        LeafSigner x = Bench.keyed(1, 1, 20);
        x.fuse(1);
        x.sign(0);
        edges.due("after it fell as it reserved", x.sign(0), -3);
    }

    private void signWithoutLeaf() {
        for (int reserve = 1; reserve <= 3; reserve++) {
            LeafSigner x = Bench.keyed(1, reserve, 21);
            Bench.signTimes(x, 2);
            String out = Bench.out(x);
            Bench.feed(x, 22, 1);
            edges.due("all released", x.sign(20), -4);
            edges.due("OUT", Bench.out(x), out);
            edges.due("the size of OUT", x.about(8), 2212);
            edges.due("and again", x.sign(0), -4);
            edges.due("about", Bench.about(x), "1 2 2 2 0 " + x.about(5) + " -1 0 2212 0 1 " + reserve);
        }
        LeafSigner x = Bench.keyed(2, 8, 21);
        x.sign(0);
        x.fall();
        x.rise();
        edges.due("all but one lost", x.sign(0), -4);
        edges.due("OUT", Bench.out(x), Bench.some(Bench.rfc(2, 21).sign(0, new byte[0])));
        edges.due("leaves", Bench.leaves(x), "2333");
    }

    private void signThatFalls() {
        LeafSigner x = Bench.keyed(2, 1, 23);
        x.fuse(0);
        edges.due("it fell", x.sign(0), -5);
        edges.due("OUT stays empty", x.about(8), 0);
        x.rise();
        x.sign(0);
        String out = Bench.out(x);
        for (int k = 0; k < 12; k++) {
            x.fuse(k);
            Bench.feed(x, 24, 1);
            edges.due("it fell at byte " + k, x.sign(20), -5);
            edges.due("DOWN", x.about(0), 2);
            edges.due("OUT", Bench.out(x), out);
            edges.due("the size of OUT", x.about(8), 2244);
            edges.due("no leaf is released", Bench.leaves(x), "2000");
            x.rise();
        }
    }

    private void shortestAndLongestFuse() {
        LeafSigner x = new LeafSigner(1, 1);
        for (int k : new int[] {0, 1, 500, 999, 1000}) {
            edges.due("fuse " + k, x.fuse(k), true);
            edges.due("left", x.about(6), k);
        }
        x = Bench.keyed(4, 1, 25);
        x.fuse(0);
        edges.due("the shortest", x.sign(0), -5);
        x.rise();
        x.fuse(1000);
        for (int t = 0; t < 83; t++) {
            if (t > 0 && t % 16 == 0) {
                Bench.giveKeys(x, 25);
            }
            edges.due("sign " + t, x.sign(0), t % 16);
            edges.due("left of the longest", x.about(6), 1000 - 12 * (t + 1));
        }
        edges.due("the byte behind a thousand", x.sign(0), -5);
        edges.due("bytes written", x.about(5), 1000);
        edges.due("four of twelve, but for the last", Bench.disk(x), Bench.words(4, 2, 2, 3, 3, 3));
    }

    private void fuseInPlace() {
        LeafSigner x = Bench.keyed(2, 1, 26);
        x.fuse(5);
        x.fuse(30);
        edges.due("a longer one", x.about(6), 30);
        edges.due("sign", x.sign(0), 0);
        edges.due("a shorter one", x.fuse(2), true);
        edges.due("left", x.about(6), 2);
        edges.due("sign", x.sign(0), -5);
        edges.due("bytes written", x.about(5), 14);
        edges.due("the older ones are gone", x.about(6), -1);
        x.rise();
        Bench.signTimes(x, 3);
        edges.due("and burn no more", x.about(0) + " " + x.about(3), "1 4");
    }

    private void fuseTakenAway() {
        LeafSigner x = Bench.keyed(2, 1, 27);
        edges.due("none where none was", x.fuse(LeafSigner.NONE), true);
        edges.due("left", x.about(6), -1);
        x.fuse(0);
        edges.due("none any more", x.fuse(-1), true);
        edges.due("left", x.about(6), -1);
        edges.due("sign", x.sign(0), 0);
        edges.due("left", x.about(6), -1);
    }

    private void wrongFuse() {
        for (int k : new int[] {-2, 1001, MIN, MAX}) {
            edges.due("OFF, fuse " + k, madeOff().fuse(k), false);
            edges.due("UP, fuse " + k, madeUp().fuse(k), false);
            edges.due("DOWN, fuse " + k, madeDown().fuse(k), false);
            edges.doesNothing("OFF, fuse " + k, MachineEdgesTest::madeOff, x -> x.fuse(k));
            edges.doesNothing("UP, fuse " + k, MachineEdgesTest::madeUp, x -> x.fuse(k));
            edges.doesNothing("DOWN, fuse " + k, MachineEdgesTest::madeDown, x -> x.fuse(k));
        }
    }

    private void fallWhenNotUp() {
        edges.due("OFF", madeOff().fall(), false);
        edges.due("DOWN", madeDown().fall(), false);
        edges.doesNothing("OFF", MachineEdgesTest::madeOff, LeafSigner::fall);
        edges.doesNothing("DOWN", MachineEdgesTest::madeDown, LeafSigner::fall);
        LeafSigner x = Bench.keyed(1, 1, 28);
        edges.due("UP", x.fall(), true);
        edges.due("twice", x.fall(), false);
        x.rise();
        x.fuse(7);
        x.sign(0);
        edges.due("after it fell as it reserved", x.fall(), false);
    }

    private void risesAgainAndAgain() {
        LeafSigner x = Bench.keyed(1, 1, 29);
        for (int t = 0; t < 20; t++) {
            edges.due("fall", x.fall(), true);
            edges.due("rise", x.rise(), true);
            edges.due("UP", x.about(0), 1);
            edges.due("NEXT", x.about(1), Math.min(t, 2));
            edges.due("sign", x.sign(0), t < 2 ? t : -4);
        }
        edges.due("bytes written", x.about(5), 24);
    }

    private void riseWhenNotDown() {
        edges.due("OFF", madeOff().rise(), false);
        edges.due("UP", madeUp().rise(), false);
        edges.doesNothing("OFF", MachineEdgesTest::madeOff, LeafSigner::rise);
        edges.doesNothing("UP", MachineEdgesTest::madeUp, LeafSigner::rise);
        LeafSigner x = madeDown();
        edges.due("DOWN", x.rise(), true);
        edges.due("twice", x.rise(), false);
    }

    private static LeafSigner madeOff() {
        LeafSigner x = new LeafSigner(2, 3);
        x.fuse(50);
        Bench.feed(x, 30, 2);
        return x;
    }

    /** Leaf 2 comes next, and END is 3: a call too many that reserved, released or reread the disk would show. */
    private static LeafSigner madeUp() {
        LeafSigner x = Bench.keyed(2, 3, 31);
        x.fuse(50);
        x.sign(0);
        x.hold();
        x.sign(0);
        Bench.feed(x, 30, 2);
        return x;
    }

    private static LeafSigner madeDown() {
        LeafSigner x = madeUp();
        x.fall();
        return x;
    }

    private static LeafSigner madeSpent() {
        LeafSigner x = madeUp();
        Bench.signTimes(x, 2);
        Bench.feed(x, 30, 2);
        return x;
    }
}
