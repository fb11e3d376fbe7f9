import java.util.function.LongSupplier;

/** Promises 10 to 14: what is refused, in which order, and that a refusal changes nothing. */
public final class RefusalsTest {
    private static final int[] N = {16, 16, 24, 24, 32, 32};
    private static final int[] D = {7, 22, 7, 22, 8, 17};
    private static final int[] P = {9, 3, 9, 3, 8, 4};
    private static final int[] WRONG_SETS = {-1, 12, Integer.MIN_VALUE, Integer.MAX_VALUE};
    private static final int[] WRONG_HOWS = {-2, 1, 2, Integer.MIN_VALUE, Integer.MAX_VALUE};

    public static void main(String[] args) {
        for (int set = 0; set < 12; set++) {
            keys(set);
            sign(set);
            verify(set);
            node(set);
            context(set);
        }
        wrongNumbers();
        nothingChanges();
        Check.done();
    }

    private static void keys(int set) {
        int n = N[set % 6];
        HashTreeSigner x = new HashTreeSigner();
        for (int count : new int[] {0, n, 3 * n - 1, 3 * n + 1, 4 * n, 65536}) {
            x.resize(Check.RANDOM, count);
            Check.state("10 RANDOM " + count, () -> x.slhKeys(set));
        }
        Check.due("10 no SECRET", () -> x.length(Check.SECRET) + x.length(Check.PUBLIC), 0);
    }

    private static void sign(int set) {
        int n = N[set % 6];
        HashTreeSigner x = new HashTreeSigner();
        for (int how = -1; how <= 0; how++) {
            int h = how;
            for (int count : new int[] {1, n - 1, n + 1, 3 * n, 65536}) {
                x.resize(Check.RANDOM, count);
                Check.state("11 RANDOM before SECRET " + count, () -> x.slhSign(set, h));
                x.resize(Check.SECRET, 4 * n);
                Check.state("11 RANDOM " + count, () -> x.slhSign(set, h));
                x.resize(Check.SECRET, 0);
            }
            for (int count : new int[] {0, 2 * n, 4 * n - 1, 4 * n + 1, 65536}) {
                x.resize(Check.SECRET, count);
                x.resize(Check.RANDOM, 0);
                Check.unsupported("11 SECRET " + count, () -> x.slhSign(set, h));
                x.resize(Check.RANDOM, n);
                Check.unsupported("11 SECRET and RANDOM " + count, () -> x.slhSign(set, h));
            }
        }
        Check.due("11 no PACKET", () -> x.length(Check.PACKET), 0);
    }

    private static void verify(int set) {
        int n = N[set % 6];
        HashTreeSigner x = new HashTreeSigner();
        for (int count : new int[] {0, n, 2 * n - 1, 2 * n + 1, 4 * n, 65536}) {
            x.resize(Check.PUBLIC, count);
            Check.unsupported("12 PUBLIC " + count, () -> x.slhVerify(set, 0) ? 1 : 0);
            Check.unsupported("12 PUBLIC " + count, () -> x.slhVerify(set, -1) ? 1 : 0);
        }
        x.resize(Check.PUBLIC, 2 * n);
        Check.due("12 no PACKET is no signature", () -> x.slhVerify(set, 0) ? 1 : 0, 0);
        Check.due("12 SHARED", () -> x.length(Check.SHARED), 0);
        x.resize(Check.RANDOM, 5);
        Check.due("12 RANDOM does not matter", () -> x.slhVerify(set, -1) ? 1 : 0, 0);
    }

    private static void node(int set) {
        int n = N[set % 6];
        int d = D[set % 6];
        int p = P[set % 6];
        HashTreeSigner x = new HashTreeSigner();
        for (int count = 0; count <= 4 * n; count += 4 * n) {
            x.resize(Check.SECRET, count);
            Check.illegal("13 layer", () -> x.slhNode(set, -1, 0, 0, 0));
            Check.illegal("13 layer", () -> x.slhNode(set, d, 0, 0, 0));
            Check.illegal("13 layer", () -> x.slhNode(set, Integer.MAX_VALUE, 0, 0, 0));
            Check.illegal("13 tree", () -> x.slhNode(set, 0, -1, 0, 0));
            Check.illegal("13 tree", () -> x.slhNode(set, 0, Integer.MIN_VALUE, 0, 0));
            Check.illegal("13 z", () -> x.slhNode(set, 0, 0, -1, 0));
            Check.illegal("13 z", () -> x.slhNode(set, 0, 0, p + 1, 0));
            Check.illegal("13 z", () -> x.slhNode(set, 0, 0, Integer.MIN_VALUE, 0));
            Check.illegal("13 z", () -> x.slhNode(set, 0, 0, Integer.MAX_VALUE, 0));
            for (int z = 0; z <= p; z++) {
                int height = z;
                Check.illegal("13 i", () -> x.slhNode(set, 0, 0, height, -1));
                Check.illegal("13 i", () -> x.slhNode(set, 0, 0, height, 1 << (p - height)));
                Check.illegal("13 i", () -> x.slhNode(set, 0, 0, height, Integer.MAX_VALUE));
            }
        }
        for (int count : new int[] {0, 3 * n, 4 * n - 1, 4 * n + 1, 65536}) {
            x.resize(Check.SECRET, count);
            Check.unsupported("13 SECRET " + count, () -> x.slhNode(set, d - 1, 0, p, 0));
            Check.unsupported("13 SECRET " + count, () -> x.slhNode(set, 0, 7, 0, (1 << p) - 1));
        }
        Check.due("13 no SHARED", () -> x.length(Check.SHARED), 0);
    }

    /** Promise 14: only with how 0 CONTEXT may be too long, and this comes before the keys. */
    private static void context(int set) {
        int n = N[set % 6];
        HashTreeSigner x = new HashTreeSigner();
        for (int count : new int[] {256, 257, 512, 65536}) {
            x.resize(Check.CONTEXT, count);
            Check.state("14 slhSign, no SECRET " + count, () -> x.slhSign(set, 0));
            Check.state("14 slhVerify, no PUBLIC " + count, () -> x.slhVerify(set, 0) ? 1 : 0);
            Check.unsupported("14 slhSign -1 " + count, () -> x.slhSign(set, -1));
            Check.unsupported("14 slhVerify -1 " + count, () -> x.slhVerify(set, -1) ? 1 : 0);
        }
        x.resize(Check.PUBLIC, 2 * n);
        x.resize(Check.SECRET, 4 * n);
        Check.state("14 slhSign", () -> x.slhSign(set, 0));
        Check.state("14 slhVerify", () -> x.slhVerify(set, 0) ? 1 : 0);
        Check.due("14 slhVerify -1", () -> x.slhVerify(set, -1) ? 1 : 0, 0);
        x.resize(Check.CONTEXT, 255);
        Check.due("14 slhVerify of 255", () -> x.slhVerify(set, 0) ? 1 : 0, 0);
        if (set % 2 == 1) {
            x.resize(Check.CONTEXT, 65536);
            int signature = new PlainSlh(set).signature;
            Check.due("14 slhSign -1", () -> x.slhSign(set, -1), signature);
        }
    }

    private static void wrongNumbers() {
        HashTreeSigner x = new HashTreeSigner();
        x.resize(Check.CONTEXT, 256);
        for (int set : WRONG_SETS) {
            Check.illegal("10 set", () -> x.slhKeys(set));
            Check.illegal("13 set", () -> x.slhNode(set, 0, 0, 0, 0));
            for (int how = -1; how <= 0; how++) {
                int h = how;
                Check.illegal("11 set", () -> x.slhSign(set, h));
                Check.illegal("12 set", () -> x.slhVerify(set, h) ? 1 : 0);
            }
        }
        for (int how : WRONG_HOWS) {
            for (int set = 0; set < 12; set++) {
                int s = set;
                Check.illegal("11 how", () -> x.slhSign(s, how));
                Check.illegal("12 how", () -> x.slhVerify(s, how) ? 1 : 0);
            }
        }
    }

    private static void nothingChanges() {
        HashTreeSigner x = new HashTreeSigner();
        int[] lengths = {20, 31, 63, 40, 50, 60, 70, 80};
        for (int slot = 0; slot < 8; slot++) {
            Check.put(x, slot, Check.bytes(lengths[slot], 3, slot));
        }
        x.feed(1, 2, 3, 4, 5);
        LongSupplier[] calls = {
            () -> x.slhKeys(1), () -> x.slhKeys(12), () -> x.slhSign(1, 0), () -> x.slhSign(1, 1),
            () -> x.slhSign(7, -1), () -> x.slhVerify(1, 0) ? 1 : 0, () -> x.slhVerify(12, 0) ? 1 : 0,
            () -> x.slhNode(1, 0, 0, 0, 0), () -> x.slhNode(1, 22, 0, 0, 0), () -> x.end(3, 21),
            () -> x.end(8, 2), () -> x.end(3, 65537), () -> x.copy(3, 8), () -> x.copy(8, 3),
            () -> x.resize(3, -1), () -> x.alter(3, 40, 1), () -> x.alter(3, 0, 256), () -> x.word(3, 40)
        };
        for (LongSupplier call : calls) {
            Check.due("14 it throws", Check.answer(call).endsWith("Exception"), true);
        }
        for (int slot = 0; slot < 8; slot++) {
            Check.holds("14 nothing changes", x, slot, Check.bytes(lengths[slot], 3, slot));
        }
        Check.due("14 the tape does not change", () -> x.feed(6, 7, 8, 9, 10), 40);
        Check.due("14 the tape", () -> x.end(0, 40), 40);
        Check.due("14 the tape", () -> x.word(0, 0), 0x1_00000002L);
    }
}
