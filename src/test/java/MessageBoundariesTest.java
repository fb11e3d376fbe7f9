import java.util.Arrays;
import java.util.function.Predicate;
import java.util.stream.IntStream;

/**
 * Promises 11, 12 and 14 at the boundaries of what is signed, at all twelve sets: MESSAGE and CONTEXT
 * empty and at their longest, lengths at which a hash needs a block more, and messages that choose the
 * first and the last leaf of a tree and the highest numbers of trees.
 */
public final class MessageBoundariesTest {
    private static final int MOST = Scene.MOST;
    private static final int PARTS = 10;

    private final int set;
    private final PlainSlh plain;
    private final int n;
    private final boolean lowTrees;
    /** PlainSlh makes keys of low trees alone: others take it long. */
    private byte[] secret;

    private MessageBoundariesTest(int set) {
        this.set = set;
        plain = new PlainSlh(set);
        n = plain.n;
        lowTrees = set % 2 == 1;
        secret = lowTrees ? plain.keys(Check.bytes(3 * n, 77, set)) : new byte[0];
    }

    /** Every part of every set on its own, so that several can go on at once. */
    public static void main(String[] args) {
        IntStream.range(0, 12 * PARTS).parallel().forEach(j -> new MessageBoundariesTest(j % 12).part(j / 12));
        Check.done();
    }

    private void part(int number) {
        switch (number) {
            case 0 -> lengthsOfMessageAndContext();
            case 1 -> blocksOfDigest();
            case 2 -> edgesOfVerify();
            default -> {
                if (lowTrees) {
                    signingPart(number);
                } else if (number == 3) {
                    lengthsSignedByHighTrees();
                }
            }
        }
    }

    private void signingPart(int number) {
        switch (number) {
            case 3 -> lengthsSigned();
            case 4 -> blocksOfRandomizer();
            case 5 -> layOut();
            case 6 -> contextIsNotMessage();
            case 7 -> noRandomIsTheSeed();
            case 8 -> edgesOfSign();
            default -> lastCall();
        }
    }

    private String at(String what) {
        return what + ", set " + set;
    }

    /** Few bytes and zeros behind them, as a long row can't be fed within 512 calls; the last is no zero. */
    private static byte[] row(int count, int factor) {
        byte[] all = Arrays.copyOf(Check.bytes(Math.min(count, 100), factor, 9), count);
        if (count > 0) {
            all[count - 1] = 0x6b;
        }
        return all;
    }

    private static void put(HashTreeSigner x, int slot, byte[] bytes) {
        if (bytes.length <= 100) {
            Check.put(x, slot, bytes);
            return;
        }
        int last = bytes.length - 1;
        Check.put(x, slot, Arrays.copyOf(bytes, 100));
        x.resize(slot, bytes.length);
        x.alter(slot, last, bytes[last] & 255);
    }

    /** Verifies a packet that is no signature, and holds SHARED against PlainSlh. */
    private void verifyJunk(String what, int how, byte[] context, byte[] message) {
        HashTreeSigner x = new HashTreeSigner();
        byte[] open = Check.bytes(2 * n, 53, set);
        byte[] packet = Arrays.copyOf(Check.bytes(1000, 31, 8), plain.signature);
        Check.put(x, Check.PUBLIC, open);
        Check.put(x, Check.PACKET, Arrays.copyOf(packet, 1000));
        x.resize(Check.PACKET, plain.signature);
        put(x, Check.MESSAGE, message);
        put(x, Check.CONTEXT, context);
        byte[] want = plain.last(open, PlainSlh.signed(how, context, message), packet);
        Check.due(at(what), () -> x.slhVerify(set, how) ? 1 : 0, 0);
        Check.holds(at(what), x, Check.SHARED, want);
    }

    private void lengthsOfMessageAndContext() {
        for (int message : new int[] {0, 1, MOST - 1, MOST}) {
            for (int context : new int[] {0, 1, 254, 255}) {
                verifyJunk("12 CONTEXT of " + context + " MESSAGE of " + message, 0, row(context, 5), row(message, 7));
            }
            verifyJunk("12 MESSAGE alone of " + message, -1, row(256, 5), row(message, 7));
            verifyJunk("12 MESSAGE beside the longest CONTEXT, of " + message, -1, row(MOST, 5), row(message, 7));
        }
    }

    /** Lengths behind which a hash just needs a block more, or just not, once some bytes are before it. */
    private int[] aroundBlocks(int before) {
        int block = set < 6 ? 136 : n == 16 ? 64 : 128;
        int room = set < 6 ? block - 1 : block - block / 8 - 1;
        int[] full = {room - 1, room, room + 1, block - 1, block, block + 1};
        int[] all = new int[full.length];
        for (int j = 0; j < all.length; j++) {
            all[j] = Math.floorMod(full[j] - before, block);
        }
        return all;
    }

    private void blocksOfDigest() {
        for (int count : aroundBlocks(3 * n)) {
            verifyJunk("12 a block ends behind MESSAGE of " + count, -1, row(0, 1), row(count, 3));
        }
    }

    /** An object with keys that is ready to sign these. */
    private HashTreeSigner signer(byte[] random, byte[] context, byte[] message) {
        HashTreeSigner x = new HashTreeSigner();
        Check.put(x, Check.SECRET, secret);
        Check.put(x, Check.PUBLIC, plain.publicOf(secret));
        Check.put(x, Check.RANDOM, random);
        put(x, Check.CONTEXT, context);
        put(x, Check.MESSAGE, message);
        return x;
    }

    /** Signs, holds R against PlainSlh and verifies; what verify finds is held against it elsewhere. */
    private void signs(String what, int how, byte[] context, byte[] message) {
        byte[] random = how == 0 ? new byte[0] : row(n, 41);
        HashTreeSigner x = signer(random, context, message);
        byte[] salt = plain.salt(secret, PlainSlh.signed(how, context, message), random);
        Check.due(at(what), () -> x.slhSign(set, how), plain.signature);
        for (int j = 0; j < n; j += 8) {
            int i = j;
            Check.due(at(what) + ", R", () -> x.word(Check.PACKET, i), Check.word(salt, i));
        }
        Check.due(at(what) + ", verified", () -> x.slhVerify(set, how) ? 1 : 0, 1);
        Check.holds(at(what), x, Check.SHARED, Arrays.copyOfRange(secret, 3 * n, 4 * n));
        Check.due(at(what) + ", MESSAGE stays", () -> x.length(Check.MESSAGE), message.length);
        Check.due(at(what) + ", CONTEXT stays", () -> x.length(Check.CONTEXT), context.length);
    }

    private void lengthsSigned() {
        for (int message : new int[] {0, 1, MOST}) {
            for (int context : new int[] {0, 1, 255}) {
                signs("11 CONTEXT of " + context + " MESSAGE of " + message, 0, row(context, 5), row(message, 7));
            }
            signs("11 MESSAGE alone of " + message, -1, row(256, 5), row(message, 7));
        }
        signs("14 CONTEXT at its longest", -1, row(MOST, 5), row(MOST, 7));
    }

    /** The keys are the class's own, which SignaturesTest holds against PlainSlh. */
    private void lengthsSignedByHighTrees() {
        HashTreeSigner x = new HashTreeSigner();
        Check.put(x, Check.RANDOM, Check.bytes(3 * n, 77, set));
        x.slhKeys(set);
        secret = new byte[4 * n];
        for (int j = 0; j < 4 * n; j++) {
            secret[j] = (byte) (x.word(Check.SECRET, j) >>> 56);
        }
        signs("11 no MESSAGE and CONTEXT of 255", 0, row(255, 5), row(0, 7));
        signs("14 the longest MESSAGE and CONTEXT of 256", -1, row(256, 5), row(MOST, 7));
    }

    private void blocksOfRandomizer() {
        for (int count : aroundBlocks(set < 6 ? 2 * n : n)) {
            signs("11 a block ends behind MESSAGE of " + count, -1, row(0, 1), row(count, 3));
        }
    }

    /** With how 0 the signature is that of 0, the length of CONTEXT, CONTEXT and MESSAGE with how -1. */
    private void layOut() {
        int[][] lengths = {{0, 0}, {0, 1}, {1, 0}, {127, 20}, {128, 20}, {255, 0}, {255, 30}, {255, MOST - 257}};
        for (int[] two : lengths) {
            byte[] context = row(two[0], 5);
            byte[] message = row(two[1], 7);
            HashTreeSigner x = signer(row(n, 3), context, message);
            String what = at("11 CONTEXT of " + two[0] + " MESSAGE of " + two[1]);
            x.slhSign(set, 0);
            x.copy(Check.PACKET, Check.SPARE);
            layOutByHand(x, PlainSlh.signed(0, context, message));
            Check.due(what + ", verified alone", () -> x.slhVerify(set, -1) ? 1 : 0, 1);
            Check.due(what + ", signed alone", () -> x.slhSign(set, -1), plain.signature);
            Check.due(what + ", the same", () -> x.same(Check.PACKET, Check.SPARE) ? 1 : 0, 1);
        }
    }

    /** Only the first 400 bytes are fed; behind them all but the last are zeros. */
    private static void layOutByHand(HashTreeSigner x, byte[] signed) {
        int fed = Math.min(signed.length, 400);
        Check.put(x, Check.MESSAGE, Arrays.copyOf(signed, fed));
        if (signed.length > fed) {
            x.resize(Check.MESSAGE, signed.length);
            x.alter(Check.MESSAGE, signed.length - 1, signed[signed.length - 1] & 255);
        }
    }

    private void contextIsNotMessage() {
        HashTreeSigner x = signer(new byte[0], new byte[] {1, 2}, new byte[] {3});
        x.slhSign(set, 0);
        Check.due(at("12 as signed"), () -> x.slhVerify(set, 0) ? 1 : 0, 1);
        byte[][][] others = {
            {{1}, {2, 3}}, {{1, 2, 3}, {}}, {{}, {1, 2, 3}}, {{1, 2}, {}}, {{1, 2}, {3, 0}}, {{1, 2, 0}, {3}}
        };
        for (byte[][] other : others) {
            Check.put(x, Check.CONTEXT, other[0]);
            Check.put(x, Check.MESSAGE, other[1]);
            Check.due(at("12 the same bytes otherwise"), () -> x.slhVerify(set, 0) ? 1 : 0, 0);
            Check.due(at("12 without CONTEXT"), () -> x.slhVerify(set, -1) ? 1 : 0, 0);
        }
    }

    private void noRandomIsTheSeed() {
        for (int how = -1; how <= 0; how++) {
            int h = how;
            HashTreeSigner x = signer(new byte[0], row(3, 1), row(50, 1));
            x.slhSign(set, h);
            x.copy(Check.PACKET, Check.SPARE);
            Check.put(x, Check.RANDOM, Arrays.copyOfRange(secret, 2 * n, 3 * n));
            x.slhSign(set, h);
            Check.due(at("11 RANDOM is Q"), () -> x.same(Check.PACKET, Check.SPARE) ? 1 : 0, 1);
            x.alter(Check.RANDOM, n - 1, 1);
            x.slhSign(set, h);
            Check.due(at("11 RANDOM is another"), () -> x.same(Check.PACKET, Check.SPARE) ? 1 : 0, 0);
            Check.due(at("11 but a signature, too"), () -> x.slhVerify(set, h) ? 1 : 0, 1);
        }
    }

    /** What a digest may choose at the ends of its numbers. */
    private String[] edges() {
        return new String[] {"first leaf", "last leaf", "highest bit of the tree", "no such bit",
            "first leaf above", "last leaf above", "first leaf of the forest", "last leaf of the forest"};
    }

    private Predicate<PlainSlh.Choice> edge(int number) {
        int treeBits = plain.h - plain.p;
        int lastLeaf = (1 << plain.p) - 1;
        int lastOfForest = (1 << plain.a) - 1;
        return switch (number) {
            case 0 -> c -> c.leaf == 0;
            case 1 -> c -> c.leaf == lastLeaf;
            case 2 -> c -> c.tree.testBit(treeBits - 1);
            case 3 -> c -> !c.tree.testBit(treeBits - 1);
            case 4 -> c -> (c.tree.intValue() & lastLeaf) == 0;
            case 5 -> c -> (c.tree.intValue() & lastLeaf) == lastLeaf;
            case 6 -> c -> Arrays.stream(c.leaves).anyMatch(leaf -> leaf == 0);
            default -> c -> Arrays.stream(c.leaves).anyMatch(leaf -> leaf == lastOfForest);
        };
    }

    private static byte[] numbered(int number) {
        return new byte[] {(byte) (number >>> 24), (byte) (number >>> 16), (byte) (number >>> 8), (byte) number};
    }

    private void edgesOfVerify() {
        byte[] open = Check.bytes(2 * n, 53, set);
        byte[] salt = Arrays.copyOf(Check.bytes(1000, 31, 8), n);
        String[] names = edges();
        for (int j = 0; j < names.length; j++) {
            Predicate<PlainSlh.Choice> edge = edge(j);
            int number = 0;
            while (!edge.test(plain.choice(open, numbered(number), salt))) {
                number++;
            }
            verifyJunk("12 " + names[j], -1, new byte[0], numbered(number));
        }
    }

    private void edgesOfSign() {
        byte[] open = plain.publicOf(secret);
        String[] names = edges();
        for (int j = 0; j < names.length; j++) {
            Predicate<PlainSlh.Choice> edge = edge(j);
            int number = 0;
            while (!edge.test(plain.choice(open, numbered(number), plain.salt(secret, numbered(number), row(n, 41))))) {
                number++;
            }
            signs("11 " + names[j], -1, new byte[0], numbered(number));
        }
    }

    /** Promised are 512 calls: the last of them, too. */
    private void lastCall() {
        HashTreeSigner x = new HashTreeSigner();
        int calls = 0;
        for (int slot = Check.PUBLIC; slot <= Check.SECRET; slot++) {
            byte[] key = slot == Check.SECRET ? secret : plain.publicOf(secret);
            Check.put(x, slot, key);
            calls += (key.length + 19) / 20 + 1;
        }
        while (calls < 509) {
            x.feed(calls, 0, 0, 0, 0);
            calls++;
        }
        Check.due(at("11 call 510"), () -> x.slhSign(set, 0), plain.signature);
        Check.due(at("13 call 511"), () -> x.slhNode(set, plain.d - 1, 0, plain.p, 0), 1);
        Check.due(at("12 call 512"), () -> x.slhVerify(set, 0) ? 1 : 0, 1);
    }
}
