import java.util.Arrays;

/**
 * A signer whose each key may be used but once: a tree of one-time keys by hashes (RFC 8391), and a
 * journal of two slots on a small disk by which no leaf is used twice, wherever the machine falls.
 *
 * Bytes are kept in words of four, the highest first, since all but the message is made of whole words.
 */
public final class LeafSigner {
    public static final int NONE = -1;

    private static final int WRONG_COUNT = -2;
    private static final int NOT_READY = -3;

    /** How many words a row of 32 bytes has. */
    private static final int ROW = 8;
    private static final int ROW_BYTES = 32;
    private static final int PARTS = 67;
    /** In a signature the leaf's word and the random row stand before the parts. */
    private static final int PARTS_AT = 1 + ROW;
    private static final int WAY_AT = PARTS_AT + PARTS * ROW;

    private static final int KEYS_BYTES = 96;
    private static final int FEED_BYTES = 20;
    private static final int TAPE_BYTES = 200;
    private static final int LONGEST_FUSE = 1000;

    private final int height;
    private final int reserve;
    private final ByteRow tape;
    private final ByteRow output;
    private final ByteRow held;
    private final Disk store;
    private final Machine machine;
    private final Tree tree;

    public LeafSigner(int height, int reserve) {
        this.height = Math.max(1, Math.min(4, height));
        this.reserve = Math.max(1, Math.min(8, reserve));
        int signatureWords = WAY_AT + this.height * ROW;
        tape = new ByteRow(TAPE_BYTES / 4);
        output = new ByteRow(signatureWords);
        held = new ByteRow(signatureWords);
        store = new Disk();
        machine = new Machine(1 << this.height, this.reserve, store);
        tree = new Tree(this.height);
    }

    public int feed(int a, int b, int c, int d, int e) {
        if (tape.count > TAPE_BYTES - FEED_BYTES) {
            return NONE;
        }
        tape.append(a);
        tape.append(b);
        tape.append(c);
        tape.append(d);
        tape.append(e);
        return tape.count;
    }

    public boolean keys() {
        if (tape.count < KEYS_BYTES) {
            return false;
        }
        tree.plant(tape.words);
        tape.count = 0;
        machine.begin();
        return true;
    }

    public int sign(int n) {
        if (isWrongCount(n)) {
            return WRONG_COUNT;
        }
        if (machine.state != Machine.UP) {
            return NOT_READY;
        }
        int released = machine.release();
        if (released >= 0) {
            tree.grow();
            tree.writeSignature(released, tape.words, n, output.words);
            output.fill();
        }
        tape.count = 0;
        return released;
    }

    public boolean fuse(int k) {
        if (k < NONE || k > LONGEST_FUSE) {
            return false;
        }
        store.fuseLeft = k;
        return true;
    }

    public boolean fall() {
        if (machine.state != Machine.UP) {
            return false;
        }
        machine.goDown();
        return true;
    }

    public boolean rise() {
        if (machine.state != Machine.DOWN) {
            return false;
        }
        machine.comeUp();
        return true;
    }

    public int hold() {
        held.copyOf(output);
        return held.count;
    }

    public int alter(int k, int mask) {
        held.flip(k, mask);
        return held.byteAt(k);
    }

    public int verify(int n) {
        if (isWrongCount(n)) {
            return WRONG_COUNT;
        }
        if (wasNeverKeyed()) {
            return NOT_READY;
        }
        if (!held.isFull() || !tree.hasLeaf(held.words[0])) {
            return 0;
        }
        tree.grow();
        return tree.leadsToRoot(held.words, tape.words, n) ? 1 : 0;
    }

    public int leaf(int i) {
        if (wasNeverKeyed() || !tree.hasLeaf(i)) {
            return NONE;
        }
        return machine.fates[i];
    }

    public int about(int what) {
        boolean up = machine.state == Machine.UP;
        switch (what) {
            case 0: return machine.state;
            case 1: return up ? machine.next : NONE;
            case 2: return up ? machine.end : NONE;
            case 3: return machine.countOf(Machine.RELEASED);
            case 4: return machine.countOf(Machine.LOST);
            case 5: return store.written;
            case 6: return store.fuseLeft;
            case 7: return tape.count;
            case 8: return output.count;
            case 9: return held.count;
            case 10: return height;
            case 11: return reserve;
            default: return NONE;
        }
    }

    public int disk(int k) {
        return store.bytes.byteAt(k);
    }

    public int node(int height, int i, int k) {
        if (wasNeverKeyed() || !tree.hasNode(height, i) || k < 0 || k >= ROW_BYTES) {
            return NONE;
        }
        tree.grow();
        return tree.nodes.byteAt(tree.nodeAt(height, i) * 4 + k);
    }

    public int out(int k) {
        return output.byteAt(k);
    }

    private boolean isWrongCount(int n) {
        return n < 0 || n > tape.count;
    }

    /** The machine is off only until the first keys come, and never again. */
    private boolean wasNeverKeyed() {
        return machine.state == Machine.OFF;
    }

    /** A row of bytes of which the first ones, so many as count tells, are there. */
    private static final class ByteRow {
        final int[] words;
        int count;

        ByteRow(int size) {
            words = new int[size];
            count = 0;
        }

        int byteAt(int k) {
            return k < 0 || k >= count ? NONE : (words[k >> 2] >>> shiftOf(k)) & 255;
        }

        void flip(int k, int mask) {
            if (k >= 0 && k < count) {
                words[k >> 2] ^= (mask & 255) << shiftOf(k);
            }
        }

        void append(int word) {
            if ((count >> 2) < words.length) {
                words[count >> 2] = word;
                count += 4;
            }
        }

        void fill() {
            count = words.length * 4;
        }

        boolean isFull() {
            return count == words.length * 4;
        }

        void copyOf(ByteRow other) {
            int size = Math.min(words.length, other.words.length);
            System.arraycopy(other.words, 0, words, 0, size);
            count = Math.min(size * 4, other.count);
        }

        private static int shiftOf(int k) {
            return 24 - 8 * (k & 3);
        }
    }

    /** Two slots of three words: SEQ, LIMIT, SEQ again; and the fuse that ends a write halfway. */
    private static final class Disk {
        private static final int SLOT_WORDS = 3;
        private static final int SLOT_BYTES = 12;

        final ByteRow bytes;
        int written;
        int fuseLeft;

        Disk() {
            bytes = new ByteRow(2 * SLOT_WORDS);
            bytes.fill();
            written = 0;
            fuseLeft = NONE;
        }

        void erase() {
            Arrays.fill(bytes.words, 0);
        }

        /** SEQ of a whole slot, 0 of one that isn't whole. */
        int sequenceOf(int slot) {
            int first = bytes.words[(slot & 1) * SLOT_WORDS];
            int again = bytes.words[(slot & 1) * SLOT_WORDS + 2];
            return first == again ? Math.max(0, first) : 0;
        }

        int limitOf(int slot) {
            return bytes.words[(slot & 1) * SLOT_WORDS + 1];
        }

        /** False if the fuse ended it; the bytes before that one stay written. */
        boolean writeSlot(int sequence, int limit) {
            int start = (sequence & 1) * SLOT_BYTES;
            for (int k = 0; k < SLOT_BYTES; k++) {
                int word = (k >> 2) == 1 ? limit : sequence;
                if (!writeByte(start + k, word >>> ByteRow.shiftOf(k))) {
                    return false;
                }
            }
            return true;
        }

        private boolean writeByte(int k, int value) {
            if (fuseLeft == 0) {
                fuseLeft = NONE;
                return false;
            }
            if (fuseLeft > 0) {
                fuseLeft--;
            }
            bytes.flip(k, bytes.byteAt(k) ^ value);
            written++;
            return true;
        }
    }

    /** What reserves leaves in the journal and releases them one by one. */
    private static final class Machine {
        static final int OFF = 0;
        static final int UP = 1;
        static final int DOWN = 2;

        static final int FREE = 0;
        static final int RESERVED = 1;
        static final int RELEASED = 2;
        static final int LOST = 3;

        private static final int ALL_SPENT = -4;
        private static final int FELL = -5;

        /** What an onlooker knows of each leaf; the machine itself goes by the disk alone. */
        final int[] fates;
        private final int reserve;
        private final Disk disk;
        int state;
        int next;
        int end;
        private int sequence;

        Machine(int leaves, int reserve, Disk disk) {
            fates = new int[leaves];
            this.reserve = reserve;
            this.disk = disk;
            state = OFF;
            next = 0;
            end = 0;
            sequence = 0;
        }

        void begin() {
            disk.erase();
            Arrays.fill(fates, FREE);
            comeUp();
        }

        void comeUp() {
            sequence = 0;
            end = 0;
            for (int slot = 0; slot < 2; slot++) {
                if (disk.sequenceOf(slot) > sequence) {
                    sequence = disk.sequenceOf(slot);
                    end = disk.limitOf(slot);
                }
            }
            next = end;
            state = UP;
        }

        void goDown() {
            state = DOWN;
            for (int i = 0; i < fates.length; i++) {
                if (fates[i] == RESERVED) {
                    fates[i] = LOST;
                }
            }
        }

        /** The leaf that may sign now, or why there is none. */
        int release() {
            if (next < 0 || next >= fates.length) {
                return ALL_SPENT;
            }
            if (next == end && !reserveMore()) {
                goDown();
                return FELL;
            }
            fates[next] = RELEASED;
            next++;
            return next - 1;
        }

        private boolean reserveMore() {
            int limit = Math.min(end + reserve, fates.length);
            if (!disk.writeSlot(sequence + 1, limit)) {
                return false;
            }
            for (int i = end; i < limit; i++) {
                fates[i] = RESERVED;
            }
            sequence++;
            end = limit;
            return true;
        }

        int countOf(int fate) {
            int count = 0;
            for (int i = 0; i < fates.length; i++) {
                if (fates[i] == fate) {
                    count++;
                }
            }
            return count;
        }
    }

    /** The tree over the one-time keys (RFC 8391, 4.1). */
    private static final class Tree {
        private final int height;
        private final int leaves;
        /** Node p has the children 2p and 2p + 1, side by side as a join wants them; the root is node 1. */
        final ByteRow nodes;
        private final Hashes hashes;
        private final OneTime oneTime;
        private final int[] secret;
        private final int[] randomKey;
        private final int[] digest;
        private final int[] parts;
        private final int[] pair;
        private boolean grown;

        Tree(int height) {
            this.height = height;
            leaves = 1 << height;
            nodes = new ByteRow(2 * leaves * ROW);
            nodes.fill();
            hashes = new Hashes();
            oneTime = new OneTime(hashes);
            secret = new int[ROW];
            randomKey = new int[ROW];
            digest = new int[ROW];
            parts = new int[PARTS * ROW];
            pair = new int[2 * ROW];
            grown = false;
        }

        /** Takes S, P and SEED from the first 24 words; the nodes wait until someone asks, for they are dear. */
        void plant(int[] keys) {
            System.arraycopy(keys, 0, secret, 0, ROW);
            System.arraycopy(keys, ROW, randomKey, 0, ROW);
            hashes.takeSeed(keys, 2 * ROW);
            grown = false;
        }

        boolean hasLeaf(int i) {
            return i >= 0 && i < leaves;
        }

        boolean hasNode(int level, int i) {
            return level >= 0 && level <= height && i >= 0 && i < (leaves >> level);
        }

        /** Where the words of a node begin; it must be one that is there. */
        int nodeAt(int level, int i) {
            return ((leaves >> level) + i) * ROW;
        }

        void grow() {
            if (grown) {
                return;
            }
            for (int i = 0; i < leaves; i++) {
                oneTime.writeSecrets(secret, i, parts, 0);
                oneTime.walk(i, parts, 0, oneTime.bottoms, oneTime.tops);
                oneTime.joinParts(i, parts, nodes.words, nodeAt(0, i));
            }
            for (int level = 1; level <= height; level++) {
                for (int i = 0; i < (leaves >> level); i++) {
                    hashes.address(Hashes.TREE, 0, level - 1, i);
                    hashes.join(nodes.words, nodeAt(level - 1, 2 * i), nodes.words, nodeAt(level, i));
                }
            }
            grown = true;
        }

        /** The tree must have grown. */
        void writeSignature(int leaf, int[] message, int n, int[] signature) {
            signature[0] = leaf;
            hashes.derive(randomKey, leaf, signature, 1);
            hashes.digestMessage(signature, nodes.words, message, n, digest);
            oneTime.readDigits(digest);
            oneTime.writeSecrets(secret, leaf, signature, PARTS_AT);
            oneTime.walk(leaf, signature, PARTS_AT, oneTime.bottoms, oneTime.digits);
            for (int level = 0; level < height; level++) {
                int beside = (leaf >> level) ^ 1;
                System.arraycopy(nodes.words, nodeAt(level, beside), signature, WAY_AT + level * ROW, ROW);
            }
        }

        /** The tree must have grown, and the signature's leaf be one of it. */
        boolean leadsToRoot(int[] signature, int[] message, int n) {
            int leaf = signature[0];
            hashes.digestMessage(signature, nodes.words, message, n, digest);
            oneTime.readDigits(digest);
            System.arraycopy(signature, PARTS_AT, parts, 0, PARTS * ROW);
            oneTime.walk(leaf, parts, 0, oneTime.digits, oneTime.tops);
            oneTime.joinParts(leaf, parts, digest, 0);
            for (int level = 0; level < height; level++) {
                int side = (leaf >> level) & 1;
                System.arraycopy(digest, 0, pair, side * ROW, ROW);
                System.arraycopy(signature, WAY_AT + level * ROW, pair, (1 - side) * ROW, ROW);
                hashes.address(Hashes.TREE, 0, level, leaf >> (level + 1));
                hashes.join(pair, 0, digest, 0);
            }
            return isRoot(digest);
        }

        private boolean isRoot(int[] row) {
            for (int k = 0; k < ROW; k++) {
                if (row[k] != nodes.words[ROW + k]) {
                    return false;
                }
            }
            return true;
        }
    }

    /** The one-time keys: WOTS+ with w = 16 (RFC 8391, 3.1), and the tree over a key's parts (4.1.5). */
    private static final class OneTime {
        private static final int TOP = 15;
        private static final int MESSAGE_DIGITS = 64;
        /** How often 67 parts are halved until one is left. */
        private static final int LEVELS = 7;

        private final Hashes hashes;
        private final int[] leafSecret;
        final int[] bottoms;
        final int[] digits;
        final int[] tops;

        OneTime(Hashes hashes) {
            this.hashes = hashes;
            leafSecret = new int[ROW];
            bottoms = new int[PARTS];
            digits = new int[PARTS];
            tops = new int[PARTS];
            Arrays.fill(tops, TOP);
        }

        void writeSecrets(int[] secret, int leaf, int[] parts, int at) {
            hashes.derive(secret, leaf, leafSecret, 0);
            for (int j = 0; j < PARTS; j++) {
                hashes.derive(leafSecret, j, parts, at + j * ROW);
            }
        }

        /** The digits of a digest, and behind them those of the sum that keeps each from being raised alone. */
        void readDigits(int[] digest) {
            int sum = 0;
            for (int k = 0; k < MESSAGE_DIGITS; k++) {
                digits[k] = (digest[k >> 3] >>> (28 - 4 * (k & 7))) & TOP;
                sum += TOP - digits[k];
            }
            digits[MESSAGE_DIGITS] = (sum >> 8) & TOP;
            digits[MESSAGE_DIGITS + 1] = (sum >> 4) & TOP;
            digits[MESSAGE_DIGITS + 2] = sum & TOP;
        }

        /** From bottoms to tops makes the public key, to digits a signature, from digits to tops tests one. */
        void walk(int leaf, int[] parts, int at, int[] from, int[] to) {
            for (int j = 0; j < PARTS; j++) {
                hashes.address(Hashes.ONE_TIME, leaf, j, 0);
                hashes.chain(parts, at + j * ROW, from[j], to[j]);
            }
        }

        /** Uses the parts up: each level is written over the one below. */
        void joinParts(int leaf, int[] parts, int[] to, int toAt) {
            int count = PARTS;
            for (int level = 0; level < LEVELS; level++) {
                int pairs = count >> 1;
                for (int i = 0; i < pairs; i++) {
                    hashes.address(Hashes.PARTS_TREE, leaf, level, i);
                    hashes.join(parts, 2 * i * ROW, parts, i * ROW);
                }
                if ((count & 1) == 1) {
                    System.arraycopy(parts, (count - 1) * ROW, parts, pairs * ROW, ROW);
                }
                count -= pairs;
            }
            System.arraycopy(parts, 0, to, toAt, ROW);
        }
    }

    /** The hash functions of RFC 8391, 5.1, and the address (2.5) that keeps their uses apart. */
    private static final class Hashes {
        static final int ONE_TIME = 0;
        static final int PARTS_TREE = 1;
        static final int TREE = 2;

        private static final int TAG_F = 0;
        private static final int TAG_H = 1;
        private static final int TAG_MESSAGE = 2;
        private static final int TAG_PRF = 3;
        private static final int THREE_ROWS = 3 * ROW_BYTES;
        private static final int FOUR_ROWS = 4 * ROW_BYTES;

        private final Sha256 sha;
        private final int[] seedState;
        private final int[] address;
        private final int[] key;
        private final int[] mask;
        private final int[] otherMask;

        Hashes() {
            sha = new Sha256();
            seedState = new int[ROW];
            address = new int[ROW];
            key = new int[ROW];
            mask = new int[ROW];
            otherMask = new int[ROW];
        }

        /** The first block is the same for every key and mask drawn from the seed: it is done once here. */
        void takeSeed(int[] from, int at) {
            startTagged(TAG_PRF, from, at);
            sha.copyTo(seedState, 0);
        }

        /** The layer and the tree (words 0 to 2) are always 0; the last word is set with each key or mask. */
        void address(int type, int first, int second, int third) {
            address[3] = type;
            address[4] = first;
            address[5] = second;
            address[6] = third;
        }

        /** PRF(key, toByte(number, 32)). */
        void derive(int[] from, int number, int[] to, int toAt) {
            startTagged(TAG_PRF, from, 0);
            sha.putNumber(0, number);
            sha.putEnd(ROW, THREE_ROWS);
            sha.compress();
            sha.copyTo(to, toAt);
        }

        /** Leads a row up its chain; the address must be of one-time keys. */
        void chain(int[] row, int at, int from, int to) {
            for (int step = from; step < to; step++) {
                address[6] = step;
                drawFromSeed(0, key);
                drawFromSeed(1, mask);
                startTagged(TAG_F, key, 0);
                sha.putMasked(0, row, at, mask);
                sha.putEnd(ROW, THREE_ROWS);
                sha.compress();
                sha.copyTo(row, at);
            }
        }

        /** RAND_HASH of two rows that stand side by side. */
        void join(int[] rows, int at, int[] to, int toAt) {
            drawFromSeed(0, key);
            drawFromSeed(1, mask);
            drawFromSeed(2, otherMask);
            startTagged(TAG_H, key, 0);
            sha.putMasked(0, rows, at, mask);
            sha.putMasked(ROW, rows, at + ROW, otherMask);
            sha.compress();
            sha.putEnd(0, FOUR_ROWS);
            sha.compress();
            sha.copyTo(to, toAt);
        }

        /** Of the signature only the leaf and the random row are read, of the nodes the root. */
        void digestMessage(int[] signature, int[] nodes, int[] message, int n, int[] to) {
            startTagged(TAG_MESSAGE, signature, 1);
            sha.putRow(0, nodes, ROW);
            sha.putNumber(ROW, signature[0]);
            sha.compress();
            sha.finish(message, n, FOUR_ROWS);
            sha.copyTo(to, 0);
        }

        /** PRF(SEED, address). */
        private void drawFromSeed(int keyAndMask, int[] to) {
            address[7] = keyAndMask;
            sha.startFrom(seedState);
            sha.putRow(0, address, 0);
            sha.putEnd(ROW, THREE_ROWS);
            sha.compress();
            sha.copyTo(to, 0);
        }

        /** Every function begins with its number and a key, which fill a block. */
        private void startTagged(int tag, int[] from, int at) {
            sha.start();
            sha.putNumber(0, tag);
            sha.putRow(ROW, from, at);
            sha.compress();
        }
    }

    /** SHA-256 (FIPS 180-4) over blocks of 16 words that the caller puts in place. */
    private static final class Sha256 {
        private static final int[] START = {
            0x6a09e667, 0xbb67ae85, 0x3c6ef372, 0xa54ff53a, 0x510e527f, 0x9b05688c, 0x1f83d9ab, 0x5be0cd19
        };
        private static final int[] ROUND = {
            0x428a2f98, 0x71374491, 0xb5c0fbcf, 0xe9b5dba5, 0x3956c25b, 0x59f111f1, 0x923f82a4, 0xab1c5ed5,
            0xd807aa98, 0x12835b01, 0x243185be, 0x550c7dc3, 0x72be5d74, 0x80deb1fe, 0x9bdc06a7, 0xc19bf174,
            0xe49b69c1, 0xefbe4786, 0x0fc19dc6, 0x240ca1cc, 0x2de92c6f, 0x4a7484aa, 0x5cb0a9dc, 0x76f988da,
            0x983e5152, 0xa831c66d, 0xb00327c8, 0xbf597fc7, 0xc6e00bf3, 0xd5a79147, 0x06ca6351, 0x14292967,
            0x27b70a85, 0x2e1b2138, 0x4d2c6dfc, 0x53380d13, 0x650a7354, 0x766a0abb, 0x81c2c92e, 0x92722c85,
            0xa2bfe8a1, 0xa81a664b, 0xc24b8b70, 0xc76c51a3, 0xd192e819, 0xd6990624, 0xf40e3585, 0x106aa070,
            0x19a4c116, 0x1e376c08, 0x2748774c, 0x34b0bcb5, 0x391c0cb3, 0x4ed8aa4a, 0x5b9cca4f, 0x682e6ff3,
            0x748f82ee, 0x78a5636f, 0x84c87814, 0x8cc70208, 0x90befffa, 0xa4506ceb, 0xbef9a3f7, 0xc67178f2
        };
        private static final int BLOCK = 16;
        private static final int ROUNDS = 64;
        /** The bit that ends a message. */
        private static final int END_BIT = 0x80000000;

        private final int[] state;
        private final int[] words;

        Sha256() {
            state = new int[ROW];
            words = new int[ROUNDS];
        }

        void start() {
            System.arraycopy(START, 0, state, 0, ROW);
        }

        void startFrom(int[] from) {
            System.arraycopy(from, 0, state, 0, ROW);
        }

        void copyTo(int[] to, int at) {
            System.arraycopy(state, 0, to, at, ROW);
        }

        void putRow(int place, int[] row, int at) {
            System.arraycopy(row, at, words, place, ROW);
        }

        void putMasked(int place, int[] row, int at, int[] mask) {
            for (int k = 0; k < ROW; k++) {
                words[place + k] = row[at + k] ^ mask[k];
            }
        }

        /** toByte(number, 32). */
        void putNumber(int place, int number) {
            for (int k = place; k < place + ROW - 1; k++) {
                words[k] = 0;
            }
            words[place + ROW - 1] = number;
        }

        /** Ends a message of so many bytes at a place of its last block. */
        void putEnd(int place, int bytes) {
            words[place] = END_BIT;
            for (int k = place + 1; k < BLOCK - 1; k++) {
                words[k] = 0;
            }
            words[BLOCK - 1] = bytes * 8;
        }

        /** The last blocks: n bytes of a row behind so many that were compressed before. */
        void finish(int[] row, int n, int before) {
            int blocks = (n + 8) / 64 + 1;
            for (int b = 0; b < blocks; b++) {
                for (int k = 0; k < BLOCK; k++) {
                    words[k] = paddedWord(row, n, b * BLOCK + k);
                }
                if (b == blocks - 1) {
                    words[BLOCK - 1] = (before + n) * 8;
                }
                compress();
            }
        }

        private static int paddedWord(int[] row, int n, int index) {
            int left = n - index * 4;
            if (left < 0) {
                return 0;
            }
            if (left == 0 || index >= row.length) {
                return END_BIT;
            }
            if (left >= 4) {
                return row[index];
            }
            int bits = 8 * left;
            return (row[index] & (-1 << (32 - bits))) | (END_BIT >>> bits);
        }

        void compress() {
            for (int t = BLOCK; t < ROUNDS; t++) {
                words[t] = mixLate(words[t - 2]) + words[t - 7] + mixEarly(words[t - 15]) + words[t - BLOCK];
            }
            int a = state[0];
            int b = state[1];
            int c = state[2];
            int d = state[3];
            int e = state[4];
            int f = state[5];
            int g = state[6];
            int h = state[7];
            for (int t = 0; t < ROUNDS; t++) {
                int first = h + mixE(e) + ((e & f) ^ (~e & g)) + ROUND[t] + words[t];
                int second = mixA(a) + ((a & b) ^ (a & c) ^ (b & c));
                h = g;
                g = f;
                f = e;
                e = d + first;
                d = c;
                c = b;
                b = a;
                a = first + second;
            }
            state[0] += a;
            state[1] += b;
            state[2] += c;
            state[3] += d;
            state[4] += e;
            state[5] += f;
            state[6] += g;
            state[7] += h;
        }

        private static int mixEarly(int x) {
            return ((x >>> 7) | (x << 25)) ^ ((x >>> 18) | (x << 14)) ^ (x >>> 3);
        }

        private static int mixLate(int x) {
            return ((x >>> 17) | (x << 15)) ^ ((x >>> 19) | (x << 13)) ^ (x >>> 10);
        }

        private static int mixA(int x) {
            return ((x >>> 2) | (x << 30)) ^ ((x >>> 13) | (x << 19)) ^ ((x >>> 22) | (x << 10));
        }

        private static int mixE(int x) {
            return ((x >>> 6) | (x << 26)) ^ ((x >>> 11) | (x << 21)) ^ ((x >>> 25) | (x << 7));
        }
    }
}
