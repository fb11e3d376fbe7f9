import java.util.Arrays;

/**
 * Signatures from hash functions alone, as FIPS 205 has them, at all twelve parameter sets.
 *
 * <p>Eight slots hold bytes; a tape fills them. Every row that a call needs is made with the object
 * and used again, so that no call makes anything but the exception that it throws.
 */
public final class HashTreeSigner {
    private static final int MOST = 65536;
    private static final int SLOTS = 8;
    private static final int RANDOM = 0;
    private static final int PUBLIC = 1;
    private static final int SECRET = 2;
    private static final int MESSAGE = 3;
    private static final int CONTEXT = 4;
    private static final int PACKET = 5;
    private static final int SHARED = 6;

    private static final int FED = 20;
    private static final int LONGEST_CONTEXT = 255;
    private static final int SETS = 12;
    private static final int SETS_OF_A_FAMILY = 6;
    private static final Sizes[] SIZES = Sizes.values();

    private final byte[][] slots = new byte[SLOTS][MOST];
    private final int[] lengths = new int[SLOTS];
    private final byte[] tape = new byte[MOST];
    private int tapeLength = 0;

    /** What is signed: two bytes, CONTEXT and MESSAGE at their longest. */
    private final byte[] signed = new byte[2 + LONGEST_CONTEXT + MOST];
    private int signedLength = 0;

    private final Trees shakeTrees = new Trees(new ShakeFamily());
    private final Trees sha2Trees = new Trees(new Sha2Family());

    /** All slots and the tape are empty. */
    public HashTreeSigner() {
    }

    /** Puts five ints on the tape, the highest byte of each first; answers the tape's length. */
    public int feed(int a, int b, int c, int d, int e) throws IndexOutOfBoundsException {
        if (tapeLength > MOST - FED) {
            throw new IndexOutOfBoundsException("the tape is full");
        }
        putOnTape(a);
        putOnTape(b);
        putOnTape(c);
        putOnTape(d);
        putOnTape(e);
        return tapeLength;
    }

    /** Makes the tape's first n bytes the slot, and the tape empty. */
    public int end(int slot, int n) throws IllegalArgumentException, IndexOutOfBoundsException {
        checkSlot(slot);
        checkCount(n);
        if (n > tapeLength) {
            throw new IndexOutOfBoundsException("the tape has fewer bytes");
        }
        setSlot(slot, tape, n);
        tapeLength = 0;
        return n;
    }

    /** Makes one slot as another is; answers its length. */
    public int copy(int from, int to) throws IllegalArgumentException {
        checkSlot(from);
        checkSlot(to);
        setSlot(to, slots[from], lengths[from]);
        return lengths[to];
    }

    /** Cuts a slot to n bytes or fills it up with zeros; answers how many it had. */
    public int resize(int slot, int n) throws IllegalArgumentException {
        checkSlot(slot);
        checkCount(n);
        int had = lengths[slot];
        if (n > had) {
            Arrays.fill(slots[slot], had, n, (byte) 0);
        }
        lengths[slot] = n;
        return had;
    }

    /** Changes the bits of v in byte i of a slot; answers what the byte is now. */
    public int alter(int slot, int i, int v) throws IllegalArgumentException, IndexOutOfBoundsException {
        checkSlot(slot);
        if (v < 0 || v > 255) {
            throw new IllegalArgumentException("v is no byte");
        }
        checkPlace(slot, i);
        slots[slot][i] ^= (byte) v;
        return slots[slot][i] & 255;
    }

    /** How many bytes a slot has. */
    public int length(int slot) throws IllegalArgumentException {
        checkSlot(slot);
        return lengths[slot];
    }

    /** Eight bytes of a slot from i on, the highest first, with zeros behind its end. */
    public long word(int slot, int i) throws IllegalArgumentException, IndexOutOfBoundsException {
        checkSlot(slot);
        checkPlace(slot, i);
        long value = 0;
        for (int j = i; j < i + 8; j++) {
            value <<= 8;
            if (j < lengths[slot]) {
                value |= slots[slot][j] & 255;
            }
        }
        return value;
    }

    /** Whether two slots have the same bytes. */
    public boolean same(int slot, int other) throws IllegalArgumentException {
        checkSlot(slot);
        checkSlot(other);
        return lengths[slot] == lengths[other] && alike(slots[slot], slots[other], 0, lengths[slot]);
    }

    /** Makes PUBLIC and SECRET of the three seeds in RANDOM; answers the length of SECRET. */
    public int slhKeys(int set) throws IllegalArgumentException, IllegalStateException {
        checkSet(set);
        Sizes sizes = sizesOf(set);
        int n = sizes.n;
        if (lengths[RANDOM] != 3 * n) {
            throw new IllegalStateException("RANDOM has not three seeds");
        }
        Trees trees = treesOf(set);
        trees.open(sizes, slots[RANDOM], 0, 3 * n);
        trees.enterLayer(sizes.d - 1, 0);
        setSlot(SECRET, slots[RANDOM], 3 * n);
        trees.node(sizes.p, 0, slots[SECRET], 3 * n);
        lengths[SECRET] = 4 * n;
        System.arraycopy(slots[SECRET], 2 * n, slots[PUBLIC], 0, 2 * n);
        lengths[PUBLIC] = 2 * n;
        return lengths[SECRET];
    }

    /** Signs MESSAGE by SECRET; PACKET is the signature. Answers its length. */
    public int slhSign(int set, int how)
            throws IllegalArgumentException, IllegalStateException, UnsupportedOperationException {
        checkSet(set);
        checkHow(how);
        Sizes sizes = sizesOf(set);
        checkContext(how);
        if (lengths[RANDOM] != 0 && lengths[RANDOM] != sizes.n) {
            throw new IllegalStateException("RANDOM has neither n bytes nor none");
        }
        checkSecret(sizes);
        Trees trees = treesOf(set);
        trees.open(sizes, slots[SECRET], 0, 4 * sizes.n);
        laySigned(how);
        byte[] packet = slots[PACKET];
        if (lengths[RANDOM] == 0) {
            trees.randomize(slots[SECRET], 2 * sizes.n, signed, signedLength, packet);
        } else {
            trees.randomize(slots[RANDOM], 0, signed, signedLength, packet);
        }
        trees.choose(packet, signed, signedLength);
        int at = trees.signForest(packet, sizes.n);
        for (int layer = 0; layer < sizes.d; layer++) {
            at = trees.signLayer(layer, packet, at);
        }
        lengths[PACKET] = at;
        return at;
    }

    /** Whether PACKET is a signature of MESSAGE by PUBLIC; SHARED is the root that it leads to. */
    public boolean slhVerify(int set, int how)
            throws IllegalArgumentException, IllegalStateException, UnsupportedOperationException {
        checkSet(set);
        checkHow(how);
        Sizes sizes = sizesOf(set);
        int n = sizes.n;
        checkContext(how);
        if (lengths[PUBLIC] != 2 * n) {
            throw new UnsupportedOperationException("PUBLIC is no key of this set");
        }
        if (lengths[PACKET] != sizes.signature) {
            return false;
        }
        Trees trees = treesOf(set);
        trees.open(sizes, slots[PUBLIC], 2 * n, 2 * n);
        laySigned(how);
        byte[] packet = slots[PACKET];
        trees.choose(packet, signed, signedLength);
        int at = trees.forestRoot(packet, n);
        for (int layer = 0; layer < sizes.d; layer++) {
            at = trees.layerRoot(layer, packet, at);
        }
        setSlot(SHARED, trees.x, n);
        return alike(slots[SHARED], slots[PUBLIC], n, n);
    }

    /** Makes SHARED a node of a tree of SECRET; answers 1 if it is the root in SECRET, else 0. */
    public int slhNode(int set, int layer, int tree, int z, int i)
            throws IllegalArgumentException, UnsupportedOperationException {
        checkSet(set);
        Sizes sizes = sizesOf(set);
        if (layer < 0 || layer >= sizes.d || tree < 0) {
            throw new IllegalArgumentException("no such tree");
        }
        if (z < 0 || z > sizes.p || i < 0 || i >= 1 << (sizes.p - z)) {
            throw new IllegalArgumentException("no such node");
        }
        checkSecret(sizes);
        Trees trees = treesOf(set);
        trees.open(sizes, slots[SECRET], 0, 4 * sizes.n);
        trees.enterLayer(layer, tree);
        trees.node(z, i, slots[SHARED], 0);
        lengths[SHARED] = sizes.n;
        return alike(slots[SHARED], slots[SECRET], 3 * sizes.n, sizes.n) ? 1 : 0;
    }

    private static void checkSlot(int slot) {
        if (slot < 0 || slot >= SLOTS) {
            throw new IllegalArgumentException("no such slot");
        }
    }

    private static void checkCount(int n) {
        if (n < 0 || n > MOST) {
            throw new IllegalArgumentException("no slot has so many bytes");
        }
    }

    private static void checkSet(int set) {
        if (set < 0 || set >= SETS) {
            throw new IllegalArgumentException("no such set");
        }
    }

    private static void checkHow(int how) {
        if (how != 0 && how != -1) {
            throw new IllegalArgumentException("how is neither 0 nor -1");
        }
    }

    private void checkPlace(int slot, int i) {
        if (i < 0 || i >= lengths[slot]) {
            throw new IndexOutOfBoundsException("the slot has no such byte");
        }
    }

    private void checkContext(int how) {
        if (how == 0 && lengths[CONTEXT] > LONGEST_CONTEXT) {
            throw new IllegalStateException("CONTEXT is too long");
        }
    }

    private void checkSecret(Sizes sizes) {
        if (lengths[SECRET] != 4 * sizes.n) {
            throw new UnsupportedOperationException("SECRET is no key of this set");
        }
    }

    private static Sizes sizesOf(int set) {
        return SIZES[set % SETS_OF_A_FAMILY];
    }

    private Trees treesOf(int set) {
        return set < SETS_OF_A_FAMILY ? shakeTrees : sha2Trees;
    }

    private void putOnTape(int v) {
        for (int shift = 24; shift >= 0; shift -= 8) {
            tape[tapeLength] = (byte) (v >>> shift);
            tapeLength++;
        }
    }

    private void setSlot(int slot, byte[] row, int n) {
        System.arraycopy(row, 0, slots[slot], 0, n);
        lengths[slot] = n;
    }

    /** Lays out what is signed: MESSAGE alone (how -1), or with CONTEXT before it (how 0). */
    private void laySigned(int how) {
        int head = 0;
        if (how == 0) {
            signed[0] = 0;
            signed[1] = (byte) lengths[CONTEXT];
            System.arraycopy(slots[CONTEXT], 0, signed, 2, lengths[CONTEXT]);
            head = 2 + lengths[CONTEXT];
        }
        System.arraycopy(slots[MESSAGE], 0, signed, head, lengths[MESSAGE]);
        signedLength = head + lengths[MESSAGE];
    }

    /** Whether the first n bytes of one row are those of another from a place on. */
    private static boolean alike(byte[] row, byte[] other, int from, int n) {
        for (int j = 0; j < n; j++) {
            if (row[j] != other[from + j]) {
                return false;
            }
        }
        return true;
    }

    /** The six choices of numbers; each family has them all. The letters are the document's. */
    private enum Sizes {
        SMALL_16(16, 7, 9, 12, 14),
        FAST_16(16, 22, 3, 6, 33),
        SMALL_24(24, 7, 9, 14, 17),
        FAST_24(24, 22, 3, 8, 33),
        SMALL_32(32, 8, 8, 14, 22),
        FAST_32(32, 17, 4, 9, 35);

        /** The bytes of a hash. */
        final int n;
        /** The layers of trees. */
        final int d;
        /** The height of a tree of the forest. */
        final int a;
        /** The trees of the forest. */
        final int k;
        /** The height of a tree of a layer. */
        final int p;
        /** The chains of a key pair, L in the document. */
        final int chains;
        /** The bits of a tree's number in the lowest layer. */
        final int treeBits;
        /** The bytes of the digest that choose the leaves of the forest, the tree and its key pair. */
        final int u;
        final int v;
        final int y;
        /** The bytes of a signature. */
        final int signature;

        /** The document tells h and has p of it; told the other way round nothing is divided. */
        Sizes(int n, int d, int p, int a, int k) {
            this.n = n;
            this.d = d;
            this.p = p;
            this.a = a;
            this.k = k;
            chains = 2 * n + 3;
            treeBits = d * p - p;
            u = (k * a + 7) / 8;
            v = (d * p - p + 7) / 8;
            y = (p + 7) / 8;
            signature = n * (1 + k * (1 + a) + d * p + d * (2 * n + 3));
        }
    }

    /** An address, written at once as its family has it. */
    private static final class Address {
        static final int STEP = 0;
        static final int ENDS = 1;
        static final int TREE = 2;
        static final int FOREST = 3;
        static final int ROOTS = 4;
        static final int CHAIN_SECRET = 5;
        static final int FOREST_SECRET = 6;

        final byte[] bytes;
        private final int layerAt;
        private final int treeAt;
        private final int typeAt;
        private final int wordsAt;

        /**
         * The places of the lowest byte of the layer, of the lower eight of the tree, of the lowest
         * byte of the type and of the three words: no layer and no type needs a second byte, no tree
         * a ninth.
         */
        Address(int layerAt, int treeAt, int typeAt, int wordsAt) {
            bytes = new byte[wordsAt + 12];
            this.layerAt = layerAt;
            this.treeAt = treeAt;
            this.typeAt = typeAt;
            this.wordsAt = wordsAt;
        }

        void place(int layer, long tree) {
            bytes[layerAt] = (byte) layer;
            for (int j = 0; j < 8; j++) {
                bytes[treeAt + j] = (byte) (tree >>> (56 - 8 * j));
            }
        }

        void name(int type, int x, int y, int z) {
            bytes[typeAt] = (byte) type;
            put(wordsAt, x);
            put(wordsAt + 4, y);
            put(wordsAt + 8, z);
        }

        void step(int z) {
            put(wordsAt + 8, z);
        }

        private void put(int at, int v) {
            bytes[at] = (byte) (v >>> 24);
            bytes[at + 1] = (byte) (v >>> 16);
            bytes[at + 2] = (byte) (v >>> 8);
            bytes[at + 3] = (byte) v;
        }
    }

    /** SHAKE256, for results of one block at most: no result here is longer than 49 bytes. */
    private static final class Sponge {
        private static final int RATE = 136;
        private static final long[] ROUNDS = {
            0x0000000000000001L, 0x0000000000008082L, 0x800000000000808aL, 0x8000000080008000L,
            0x000000000000808bL, 0x0000000080000001L, 0x8000000080008081L, 0x8000000000008009L,
            0x000000000000008aL, 0x0000000000000088L, 0x0000000080008009L, 0x000000008000000aL,
            0x000000008000808bL, 0x800000000000008bL, 0x8000000000008089L, 0x8000000000008003L,
            0x8000000000008002L, 0x8000000000000080L, 0x000000000000800aL, 0x800000008000000aL,
            0x8000000080008081L, 0x8000000000008080L, 0x0000000080000001L, 0x8000000080008008L
        };

        private final long[] lanes = new long[25];
        private final long[] mixed = new long[25];
        private int fill = 0;

        void start() {
            Arrays.fill(lanes, 0L);
            fill = 0;
        }

        void add(byte[] x, int from, int count) {
            for (int j = from; j < from + count; j++) {
                lanes[fill >> 3] ^= (x[j] & 255L) << ((fill & 7) << 3);
                fill++;
                if (fill == RATE) {
                    permute();
                    fill = 0;
                }
            }
        }

        void finish(byte[] out, int at, int count) {
            lanes[fill >> 3] ^= 31L << ((fill & 7) << 3);
            lanes[(RATE - 1) >> 3] ^= 128L << 56;
            permute();
            for (int j = 0; j < count; j++) {
                out[at + j] = (byte) (lanes[j >> 3] >>> ((j & 7) << 3));
            }
        }

        /** Written out lane by lane, as nearly all the time of a signature is spent in here. */
        private void permute() {
            for (int round = 0; round < 24; round++) {
                long c0 = lanes[0] ^ lanes[5] ^ lanes[10] ^ lanes[15] ^ lanes[20];
                long c1 = lanes[1] ^ lanes[6] ^ lanes[11] ^ lanes[16] ^ lanes[21];
                long c2 = lanes[2] ^ lanes[7] ^ lanes[12] ^ lanes[17] ^ lanes[22];
                long c3 = lanes[3] ^ lanes[8] ^ lanes[13] ^ lanes[18] ^ lanes[23];
                long c4 = lanes[4] ^ lanes[9] ^ lanes[14] ^ lanes[19] ^ lanes[24];
                long d0 = c4 ^ Long.rotateLeft(c1, 1);
                long d1 = c0 ^ Long.rotateLeft(c2, 1);
                long d2 = c1 ^ Long.rotateLeft(c3, 1);
                long d3 = c2 ^ Long.rotateLeft(c4, 1);
                long d4 = c3 ^ Long.rotateLeft(c0, 1);
                mixed[0] = lanes[0] ^ d0;
                mixed[1] = Long.rotateLeft(lanes[6] ^ d1, 44);
                mixed[2] = Long.rotateLeft(lanes[12] ^ d2, 43);
                mixed[3] = Long.rotateLeft(lanes[18] ^ d3, 21);
                mixed[4] = Long.rotateLeft(lanes[24] ^ d4, 14);
                mixed[5] = Long.rotateLeft(lanes[3] ^ d3, 28);
                mixed[6] = Long.rotateLeft(lanes[9] ^ d4, 20);
                mixed[7] = Long.rotateLeft(lanes[10] ^ d0, 3);
                mixed[8] = Long.rotateLeft(lanes[16] ^ d1, 45);
                mixed[9] = Long.rotateLeft(lanes[22] ^ d2, 61);
                mixed[10] = Long.rotateLeft(lanes[1] ^ d1, 1);
                mixed[11] = Long.rotateLeft(lanes[7] ^ d2, 6);
                mixed[12] = Long.rotateLeft(lanes[13] ^ d3, 25);
                mixed[13] = Long.rotateLeft(lanes[19] ^ d4, 8);
                mixed[14] = Long.rotateLeft(lanes[20] ^ d0, 18);
                mixed[15] = Long.rotateLeft(lanes[4] ^ d4, 27);
                mixed[16] = Long.rotateLeft(lanes[5] ^ d0, 36);
                mixed[17] = Long.rotateLeft(lanes[11] ^ d1, 10);
                mixed[18] = Long.rotateLeft(lanes[17] ^ d2, 15);
                mixed[19] = Long.rotateLeft(lanes[23] ^ d3, 56);
                mixed[20] = Long.rotateLeft(lanes[2] ^ d2, 62);
                mixed[21] = Long.rotateLeft(lanes[8] ^ d3, 55);
                mixed[22] = Long.rotateLeft(lanes[14] ^ d4, 39);
                mixed[23] = Long.rotateLeft(lanes[15] ^ d0, 41);
                mixed[24] = Long.rotateLeft(lanes[21] ^ d1, 2);
                for (int b = 0; b < 25; b += 5) {
                    lanes[b] = mixed[b] ^ (~mixed[b + 1] & mixed[b + 2]);
                    lanes[b + 1] = mixed[b + 1] ^ (~mixed[b + 2] & mixed[b + 3]);
                    lanes[b + 2] = mixed[b + 2] ^ (~mixed[b + 3] & mixed[b + 4]);
                    lanes[b + 3] = mixed[b + 3] ^ (~mixed[b + 4] & mixed[b]);
                    lanes[b + 4] = mixed[b + 4] ^ (~mixed[b] & mixed[b + 1]);
                }
                lanes[0] ^= ROUNDS[round];
            }
        }
    }

    /** What SHA-256 and SHA-512 have in common: all but the size of a word and the rounds. */
    private abstract static class Sha2 {
        /** Bits of roots: SHA-512 has all 64 of each, SHA-256 the upper 32 of the same ones. */
        private static final long[] SQUARE_ROOTS = {
            0x6a09e667f3bcc908L, 0xbb67ae8584caa73bL, 0x3c6ef372fe94f82bL, 0xa54ff53a5f1d36f1L,
            0x510e527fade682d1L, 0x9b05688c2b3e6c1fL, 0x1f83d9abfb41bd6bL, 0x5be0cd19137e2179L
        };
        static final long[] CUBE_ROOTS = {
            0x428a2f98d728ae22L, 0x7137449123ef65cdL, 0xb5c0fbcfec4d3b2fL, 0xe9b5dba58189dbbcL,
            0x3956c25bf348b538L, 0x59f111f1b605d019L, 0x923f82a4af194f9bL, 0xab1c5ed5da6d8118L,
            0xd807aa98a3030242L, 0x12835b0145706fbeL, 0x243185be4ee4b28cL, 0x550c7dc3d5ffb4e2L,
            0x72be5d74f27b896fL, 0x80deb1fe3b1696b1L, 0x9bdc06a725c71235L, 0xc19bf174cf692694L,
            0xe49b69c19ef14ad2L, 0xefbe4786384f25e3L, 0x0fc19dc68b8cd5b5L, 0x240ca1cc77ac9c65L,
            0x2de92c6f592b0275L, 0x4a7484aa6ea6e483L, 0x5cb0a9dcbd41fbd4L, 0x76f988da831153b5L,
            0x983e5152ee66dfabL, 0xa831c66d2db43210L, 0xb00327c898fb213fL, 0xbf597fc7beef0ee4L,
            0xc6e00bf33da88fc2L, 0xd5a79147930aa725L, 0x06ca6351e003826fL, 0x142929670a0e6e70L,
            0x27b70a8546d22ffcL, 0x2e1b21385c26c926L, 0x4d2c6dfc5ac42aedL, 0x53380d139d95b3dfL,
            0x650a73548baf63deL, 0x766a0abb3c77b2a8L, 0x81c2c92e47edaee6L, 0x92722c851482353bL,
            0xa2bfe8a14cf10364L, 0xa81a664bbc423001L, 0xc24b8b70d0f89791L, 0xc76c51a30654be30L,
            0xd192e819d6ef5218L, 0xd69906245565a910L, 0xf40e35855771202aL, 0x106aa07032bbd1b8L,
            0x19a4c116b8d2d0c8L, 0x1e376c085141ab53L, 0x2748774cdf8eeb99L, 0x34b0bcb5e19b48a8L,
            0x391c0cb3c5c95a63L, 0x4ed8aa4ae3418acbL, 0x5b9cca4f7763e373L, 0x682e6ff3d6b2b8a3L,
            0x748f82ee5defb2fcL, 0x78a5636f43172f60L, 0x84c87814a1f0ab72L, 0x8cc702081a6439ecL,
            0x90befffa23631e28L, 0xa4506cebde82bde9L, 0xbef9a3f7b2c67915L, 0xc67178f2e372532bL,
            0xca273eceea26619cL, 0xd186b8c721c0c207L, 0xeada7dd6cde0eb1eL, 0xf57d4f7fee6ed178L,
            0x06f067aa72176fbaL, 0x0a637dc5a2c898a6L, 0x113f9804bef90daeL, 0x1b710b35131c471bL,
            0x28db77f523047d84L, 0x32caab7b40c72493L, 0x3c9ebe0a15c9bebcL, 0x431d67c49c100d4cL,
            0x4cc5d4becb3e42b6L, 0x597f299cfc657e2aL, 0x5fcb6fab3ad6faecL, 0x6c44198c4a475817L
        };

        final int blockBytes;
        final byte[] block;
        /** H0 .. H7; of SHA-256 only the lower 32 bits of each count. */
        final long[] state = new long[8];
        /** A word has 2^wordShift bytes. */
        private final int wordShift;
        private final long[] kept = new long[8];
        private int fill = 0;
        private long total = 0;

        Sha2(int wordShift) {
            this.wordShift = wordShift;
            blockBytes = 16 << wordShift;
            block = new byte[16 << wordShift];
        }

        abstract void compress();

        void start() {
            int unused = 64 - (8 << wordShift);
            for (int j = 0; j < 8; j++) {
                state[j] = SQUARE_ROOTS[j] >>> unused;
            }
            fill = 0;
            total = 0;
        }

        /** Remembers the state behind the first block, which is the same for many hashes. */
        void keep() {
            System.arraycopy(state, 0, kept, 0, 8);
        }

        void resume() {
            System.arraycopy(kept, 0, state, 0, 8);
            fill = 0;
            total = blockBytes;
        }

        void add(byte[] x, int from, int count) {
            for (int j = from; j < from + count; j++) {
                block[fill] = x[j];
                fill++;
                if (fill == blockBytes) {
                    compress();
                    fill = 0;
                }
            }
            total += count;
        }

        void finish(byte[] out, int at, int count) {
            block[fill] = (byte) 128;
            fill++;
            if (fill > blockBytes - (blockBytes >> 3)) {
                Arrays.fill(block, fill, blockBytes, (byte) 0);
                compress();
                fill = 0;
            }
            Arrays.fill(block, fill, blockBytes, (byte) 0);
            for (int j = 1; j <= 8; j++) {
                block[blockBytes - j] = (byte) ((total * 8) >>> (8 * j - 8));
            }
            compress();
            int last = (1 << wordShift) - 1;
            for (int j = 0; j < count; j++) {
                out[at + j] = (byte) (state[j >> wordShift] >>> (8 * (last - (j & last))));
            }
        }
    }

    private static final class Sha256 extends Sha2 {
        private final int[] w = new int[64];

        Sha256() {
            super(2);
        }

        @Override
        void compress() {
            for (int t = 0; t < 16; t++) {
                int v = 0;
                for (int j = 4 * t; j < 4 * t + 4; j++) {
                    v = (v << 8) | (block[j] & 255);
                }
                w[t] = v;
            }
            for (int t = 16; t < 64; t++) {
                int x = w[t - 2];
                int y = w[t - 15];
                w[t] = (Integer.rotateRight(x, 17) ^ Integer.rotateRight(x, 19) ^ (x >>> 10)) + w[t - 7]
                        + (Integer.rotateRight(y, 7) ^ Integer.rotateRight(y, 18) ^ (y >>> 3)) + w[t - 16];
            }
            int a = (int) state[0];
            int b = (int) state[1];
            int c = (int) state[2];
            int d = (int) state[3];
            int e = (int) state[4];
            int f = (int) state[5];
            int g = (int) state[6];
            int h = (int) state[7];
            for (int t = 0; t < 64; t++) {
                int s1 = Integer.rotateRight(e, 6) ^ Integer.rotateRight(e, 11) ^ Integer.rotateRight(e, 25);
                int s0 = Integer.rotateRight(a, 2) ^ Integer.rotateRight(a, 13) ^ Integer.rotateRight(a, 22);
                int first = h + s1 + ((e & f) ^ (~e & g)) + (int) (CUBE_ROOTS[t] >>> 32) + w[t];
                int second = s0 + ((a & b) ^ (a & c) ^ (b & c));
                h = g;
                g = f;
                f = e;
                e = d + first;
                d = c;
                c = b;
                b = a;
                a = first + second;
            }
            state[0] += a;
            state[1] += b;
            state[2] += c;
            state[3] += d;
            state[4] += e;
            state[5] += f;
            state[6] += g;
            state[7] += h;
        }
    }

    private static final class Sha512 extends Sha2 {
        private final long[] w = new long[80];

        Sha512() {
            super(3);
        }

        @Override
        void compress() {
            for (int t = 0; t < 16; t++) {
                long v = 0;
                for (int j = 8 * t; j < 8 * t + 8; j++) {
                    v = (v << 8) | (block[j] & 255);
                }
                w[t] = v;
            }
            for (int t = 16; t < 80; t++) {
                long x = w[t - 2];
                long y = w[t - 15];
                w[t] = (Long.rotateRight(x, 19) ^ Long.rotateRight(x, 61) ^ (x >>> 6)) + w[t - 7]
                        + (Long.rotateRight(y, 1) ^ Long.rotateRight(y, 8) ^ (y >>> 7)) + w[t - 16];
            }
            long a = state[0];
            long b = state[1];
            long c = state[2];
            long d = state[3];
            long e = state[4];
            long f = state[5];
            long g = state[6];
            long h = state[7];
            for (int t = 0; t < 80; t++) {
                long s1 = Long.rotateRight(e, 14) ^ Long.rotateRight(e, 18) ^ Long.rotateRight(e, 41);
                long s0 = Long.rotateRight(a, 28) ^ Long.rotateRight(a, 34) ^ Long.rotateRight(a, 39);
                long first = h + s1 + ((e & f) ^ (~e & g)) + CUBE_ROOTS[t] + w[t];
                long second = s0 + ((a & b) ^ (a & c) ^ (b & c));
                h = g;
                g = f;
                f = e;
                e = d + first;
                d = c;
                c = b;
                b = a;
                a = first + second;
            }
            state[0] += a;
            state[1] += b;
            state[2] += c;
            state[3] += d;
            state[4] += e;
            state[5] += f;
            state[6] += g;
            state[7] += h;
        }
    }

    /** The functions of a family over one key: O | prf | Q | root, n bytes each. */
    private abstract static class Family {
        final Address address;
        final byte[] key = new byte[128];
        int n = 16;

        Family(Address address) {
            this.address = address;
        }

        /** Lays some bytes of the key; those that a call does not use may be old ones. */
        void open(int size, byte[] parts, int at, int count) {
            n = size;
            System.arraycopy(parts, 0, key, at, count);
            useSeed();
        }

        /** Called when Q is another one. */
        abstract void useSeed();

        /** F at the address; out may be x itself. PRF is this of O, the head of the key. */
        abstract void f(byte[] x, int from, int count, byte[] out, int at);

        /** N: R comes to the head of the packet. */
        abstract void randomize(byte[] r, int from, byte[] x, int count, byte[] packet);

        /** D of the R at the head of the packet. */
        abstract void digest(byte[] packet, byte[] x, int count, byte[] out, int m);
    }

    private static final class ShakeFamily extends Family {
        private final Sponge sponge = new Sponge();

        ShakeFamily() {
            super(new Address(3, 8, 19, 20));
        }

        @Override
        void useSeed() {
        }

        @Override
        void f(byte[] x, int from, int count, byte[] out, int at) {
            sponge.start();
            sponge.add(key, 2 * n, n);
            sponge.add(address.bytes, 0, address.bytes.length);
            sponge.add(x, from, count);
            sponge.finish(out, at, n);
        }

        @Override
        void randomize(byte[] r, int from, byte[] x, int count, byte[] packet) {
            sponge.start();
            sponge.add(key, n, n);
            sponge.add(r, from, n);
            sponge.add(x, 0, count);
            sponge.finish(packet, 0, n);
        }

        @Override
        void digest(byte[] packet, byte[] x, int count, byte[] out, int m) {
            sponge.start();
            sponge.add(packet, 0, n);
            sponge.add(key, 2 * n, 2 * n);
            sponge.add(x, 0, count);
            sponge.finish(out, 0, m);
        }
    }

    private static final class Sha2Family extends Family {
        private final Sha2 narrow = new Sha256();
        private final Sha2 wide = new Sha512();
        /** A block of HMAC's key, or of zeros. */
        private final byte[] pad = new byte[128];
        private final byte[] inner = new byte[64];
        private final byte[] counter = new byte[4];

        Sha2Family() {
            super(new Address(0, 1, 9, 10));
        }

        @Override
        void useSeed() {
            Arrays.fill(pad, (byte) 0);
            narrow.start();
            narrow.add(key, 2 * n, n);
            narrow.add(pad, 0, narrow.blockBytes - n);
            narrow.keep();
            wide.start();
            wide.add(key, 2 * n, n);
            wide.add(pad, 0, wide.blockBytes - n);
            wide.keep();
        }

        /** A secret is made of n bytes, so that it needs no test of the type to be a narrow one. */
        @Override
        void f(byte[] x, int from, int count, byte[] out, int at) {
            Sha2 hash = n > 16 && count > n ? wide : narrow;
            hash.resume();
            hash.add(address.bytes, 0, address.bytes.length);
            hash.add(x, from, count);
            hash.finish(out, at, n);
        }

        @Override
        void randomize(byte[] r, int from, byte[] x, int count, byte[] packet) {
            Sha2 g = messageHash();
            startKeyed(g, 0x36);
            g.add(r, from, n);
            g.add(x, 0, count);
            g.finish(inner, 0, g.blockBytes / 2);
            startKeyed(g, 0x5c);
            g.add(inner, 0, g.blockBytes / 2);
            g.finish(packet, 0, n);
        }

        @Override
        void digest(byte[] packet, byte[] x, int count, byte[] out, int m) {
            Sha2 g = messageHash();
            int size = g.blockBytes / 2;
            g.start();
            g.add(packet, 0, n);
            g.add(key, 2 * n, 2 * n);
            g.add(x, 0, count);
            g.finish(inner, 0, size);
            for (int part = 0; part * size < m; part++) {
                counter[3] = (byte) part;
                g.start();
                g.add(packet, 0, n);
                g.add(key, 2 * n, n);
                g.add(inner, 0, size);
                g.add(counter, 0, 4);
                g.finish(out, part * size, Math.min(size, m - part * size));
            }
        }

        private Sha2 messageHash() {
            return n == 16 ? narrow : wide;
        }

        /** Starts HMAC's inner or outer hash; prf is never longer than a block. */
        private void startKeyed(Sha2 g, int mask) {
            Arrays.fill(pad, (byte) mask);
            for (int j = 0; j < n; j++) {
                pad[j] ^= key[n + j];
            }
            g.start();
            g.add(pad, 0, g.blockBytes);
        }
    }

    /** The chains of one key pair. */
    private static final class Chains {
        private static final int MOST_CHAINS = 67;
        private static final int LAST_STEP = 15;

        final byte[] ends = new byte[MOST_CHAINS * 32];
        final int[] first = new int[MOST_CHAINS];
        final int[] digits = new int[MOST_CHAINS];
        final int[] last = new int[MOST_CHAINS];
        private final Family family;
        private int n = 16;
        private int count = 35;

        Chains(Family family) {
            this.family = family;
            Arrays.fill(last, LAST_STEP);
        }

        void open(Sizes sizes) {
            n = sizes.n;
            count = sizes.chains;
        }

        /** The halves of n bytes as numbers, then three numbers that keep them from growing. */
        void setDigits(byte[] x) {
            int sum = 0;
            for (int j = 0; j < n; j++) {
                digits[2 * j] = (x[j] >> 4) & 15;
                digits[2 * j + 1] = x[j] & 15;
                sum += 2 * LAST_STEP - digits[2 * j] - digits[2 * j + 1];
            }
            digits[2 * n] = (sum >> 8) & 15;
            digits[2 * n + 1] = (sum >> 4) & 15;
            digits[2 * n + 2] = sum & 15;
        }

        /** Writes the secrets that the chains of a key pair begin with. */
        void begin(int pair, byte[] row, int at) {
            for (int j = 0; j < count; j++) {
                family.address.name(Address.CHAIN_SECRET, pair, j, 0);
                family.f(family.key, 0, n, row, at + j * n);
            }
        }

        /** Goes along every chain of the row, from one step to another. */
        void walk(int pair, int[] from, int[] to, byte[] row, int at) {
            for (int j = 0; j < count; j++) {
                int place = at + j * n;
                family.address.name(Address.STEP, pair, j, 0);
                for (int step = from[j]; step < to[j]; step++) {
                    family.address.step(step);
                    family.f(row, place, n, row, place);
                }
            }
        }

        /** Makes a leaf of the ends of all chains. */
        void close(int pair, byte[] out, int at) {
            family.address.name(Address.ENDS, pair, 0, 0);
            family.f(ends, 0, count * n, out, at);
        }
    }

    /** The trees of the layers and of the forest, and the way of a signature through them. */
    private static final class Trees {
        private static final int MOST_HEIGHTS = 15;
        private static final int MOST_ROOTS = 35;
        private static final int MOST_DIGEST = 64;

        /** What the next layer signs; at last the root. */
        final byte[] x = new byte[32];
        private final Family family;
        private final Chains chains;
        private final byte[] digest = new byte[MOST_DIGEST];
        private final byte[] roots = new byte[MOST_ROOTS * 32];
        /** For each height two nodes side by side, as they are hashed. */
        private final byte[] pairs = new byte[MOST_HEIGHTS * 64];
        private Sizes sizes = Sizes.SMALL_16;
        private int n = 16;
        /** The tree and its key pair that are next on the way. */
        private long tree = 0;
        private int leaf = 0;
        /** TREE or FOREST: what node and climb work in; the key pair in its addresses, 0 in TREE. */
        private int type = Address.TREE;
        private int pair = 0;

        Trees(Family family) {
            this.family = family;
            chains = new Chains(family);
        }

        /** Takes the numbers of a set and some bytes of the key. */
        void open(Sizes set, byte[] parts, int at, int count) {
            sizes = set;
            n = set.n;
            chains.open(set);
            family.open(n, parts, at, count);
        }

        void randomize(byte[] r, int from, byte[] message, int count, byte[] packet) {
            family.randomize(r, from, message, count, packet);
        }

        /** Digests a message, and so chooses the leaves of the forest, the tree and its key pair. */
        void choose(byte[] packet, byte[] message, int count) {
            int treeAt = sizes.u;
            int leafAt = treeAt + sizes.v;
            int m = leafAt + sizes.y;
            family.digest(packet, message, count, digest, m);
            long mask = -1L >>> (64 - sizes.treeBits);
            tree = number(treeAt, leafAt) & mask;
            leaf = (int) number(leafAt, m) & ((1 << sizes.p) - 1);
        }

        void enterLayer(int layer, long number) {
            type = Address.TREE;
            pair = 0;
            family.address.place(layer, number);
        }

        /** Writes the forest's part of a signature; answers where the next part is. */
        int signForest(byte[] packet, int at) {
            enterForest();
            int place = at;
            for (int j = 0; j < sizes.k; j++) {
                int index = chosen(j);
                family.address.name(Address.FOREST_SECRET, pair, 0, index);
                family.f(family.key, 0, n, packet, place);
                place += n;
                for (int z = 0; z < sizes.a; z++) {
                    node(z, (index >> z) ^ 1, packet, place);
                    place += n;
                }
            }
            return forestRoot(packet, at);
        }

        /** Makes x of the forest's part of a signature; answers where the next part is. */
        int forestRoot(byte[] packet, int at) {
            enterForest();
            int place = at;
            for (int j = 0; j < sizes.k; j++) {
                int index = chosen(j);
                family.address.name(Address.FOREST, pair, 0, index);
                family.f(packet, place, n, pairs, (index & 1) * n);
                climb(index, sizes.a, packet, place + n, roots, j * n);
                place += (1 + sizes.a) * n;
            }
            family.address.name(Address.ROOTS, pair, 0, 0);
            family.f(roots, 0, sizes.k * n, x, 0);
            return place;
        }

        /** Writes a layer's signature of x; answers where the next part is. */
        int signLayer(int layer, byte[] packet, int at) {
            enterLayer(layer, tree);
            chains.setDigits(x);
            chains.begin(leaf, packet, at);
            chains.walk(leaf, chains.first, chains.digits, packet, at);
            int place = at + sizes.chains * n;
            for (int z = 0; z < sizes.p; z++) {
                node(z, (leaf >> z) ^ 1, packet, place);
                place += n;
            }
            return layerRoot(layer, packet, at);
        }

        /** Makes x the root that a layer's signature leads to, and goes on to the layer above. */
        int layerRoot(int layer, byte[] packet, int at) {
            enterLayer(layer, tree);
            chains.setDigits(x);
            int path = at + sizes.chains * n;
            System.arraycopy(packet, at, chains.ends, 0, sizes.chains * n);
            chains.walk(leaf, chains.digits, chains.last, chains.ends, 0);
            chains.close(leaf, pairs, (leaf & 1) * n);
            climb(leaf, sizes.p, packet, path, x, 0);
            leaf = (int) tree & ((1 << sizes.p) - 1);
            tree >>>= sizes.p;
            return path + sizes.p * n;
        }

        /** Node i at height z, of its leaves from the left to the right. */
        void node(int z, int i, byte[] out, int at) {
            for (int index = i << z; index < (i + 1) << z; index++) {
                if (type == Address.FOREST) {
                    forestLeaf(index, (index & 1) * n);
                } else {
                    chains.begin(index, chains.ends, 0);
                    chains.walk(index, chains.first, chains.last, chains.ends, 0);
                    chains.close(index, pairs, (index & 1) * n);
                }
                int above = index;
                for (int height = 1; height <= z && (above & 1) == 1; height++) {
                    above >>= 1;
                    family.address.name(type, pair, height, above);
                    family.f(pairs, (height - 1) * 2 * n, 2 * n, pairs, (height * 2 + (above & 1)) * n);
                }
            }
            System.arraycopy(pairs, (z * 2 + (i & 1)) * n, out, at, n);
        }

        /** Goes up from the leaf that stands in the lowest pair, along the neighbours of the path. */
        private void climb(int index, int heights, byte[] path, int at, byte[] out, int outAt) {
            for (int z = 0; z < heights; z++) {
                int neighbour = (index >> z) ^ 1;
                int above = index >> (z + 1);
                System.arraycopy(path, at + z * n, pairs, (neighbour & 1) * n, n);
                family.address.name(type, pair, z + 1, above);
                family.f(pairs, 0, 2 * n, pairs, (above & 1) * n);
            }
            System.arraycopy(pairs, ((index >> heights) & 1) * n, out, outAt, n);
        }

        private void forestLeaf(int index, int at) {
            family.address.name(Address.FOREST_SECRET, pair, 0, index);
            family.f(family.key, 0, n, pairs, at);
            family.address.name(Address.FOREST, pair, 0, index);
            family.f(pairs, at, n, pairs, at);
        }

        private void enterForest() {
            type = Address.FOREST;
            pair = leaf;
            family.address.place(0, tree);
        }

        /** The leaf that the digest chooses in tree j of the forest, counted through all trees. */
        private int chosen(int j) {
            int index = j;
            for (int bit = j * sizes.a; bit < (j + 1) * sizes.a; bit++) {
                index = (index << 1) | ((digest[bit >> 3] >> (7 - (bit & 7))) & 1);
            }
            return index;
        }

        private long number(int from, int to) {
            long value = 0;
            for (int j = from; j < to; j++) {
                value = (value << 8) | (digest[j] & 255);
            }
            return value;
        }
    }
}
