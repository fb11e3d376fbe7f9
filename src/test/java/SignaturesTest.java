import java.util.Arrays;
import java.util.stream.IntStream;

/** Promises 10 to 13 at all twelve sets: the answers of the class are those of PlainSlh. */
public final class SignaturesTest {
    private static final byte[] CONTEXT = Check.bytes(77, 1, 200);
    private static final byte[] MESSAGE = Check.bytes(150, 5, 3);
    private static final byte[] NONE = {};

    public static void main(String[] args) {
        IntStream.range(0, 12).parallel().forEach(SignaturesTest::oneSet);
        Check.done();
    }

    private static void oneSet(int set) {
        PlainSlh plain = new PlainSlh(set);
        byte[] seeds = Check.bytes(3 * plain.n, 37, 11 + set);
        byte[] secret = plain.keys(seeds);
        keys(set, plain, seeds, secret);
        nodes(set, plain, secret);
        junk(set, plain);
        if (set % 2 == 1) {
            verify(set, 0, plain, secret, sign(set, 0, plain, secret, NONE));
            verify(set, -1, plain, secret, sign(set, -1, plain, secret, Check.bytes(plain.n, 91, 7)));
            longest(set, plain, secret);
        } else {
            signHigh(set, -(set / 2 % 2), plain, secret);
        }
    }

    private static void keys(int set, PlainSlh plain, byte[] seeds, byte[] secret) {
        HashTreeSigner x = new HashTreeSigner();
        String what = "10 slhKeys " + set;
        Check.put(x, Check.RANDOM, seeds);
        Check.put(x, Check.SECRET, Check.bytes(200, 1, 1));
        Check.put(x, Check.PUBLIC, Check.bytes(200, 1, 1));
        Check.due(what, () -> x.slhKeys(set), 4 * plain.n);
        Check.holds(what + " SECRET", x, Check.SECRET, secret);
        Check.holds(what + " PUBLIC", x, Check.PUBLIC, plain.publicOf(secret));
        Check.holds(what + " RANDOM", x, Check.RANDOM, seeds);
        for (int slot : new int[] {Check.MESSAGE, Check.CONTEXT, Check.PACKET, Check.SHARED, Check.SPARE}) {
            Check.due(what + " others", () -> x.length(slot), 0);
        }
    }

    private static void nodes(int set, PlainSlh plain, byte[] secret) {
        HashTreeSigner x = new HashTreeSigner();
        Check.put(x, Check.SECRET, secret);
        Check.put(x, Check.SHARED, Check.bytes(200, 1, 1));
        int p = plain.p;
        int top = plain.d - 1;
        int[][] places = {
            {0, 0, 0, 0}, {0, 0, 0, (1 << p) - 1}, {top, 0, 0, 1}, {top, 0, p, 0}, {top, 1, p - 2, 3},
            {1, 0x01020304, 1, (1 << (p - 1)) - 1}, {2, Integer.MAX_VALUE, 2, 1}
        };
        for (int[] q : places) {
            String what = "13 slhNode " + set + " " + Arrays.toString(q);
            byte[] want = plain.nodeOf(secret, q[0], q[1], q[2], q[3]);
            boolean root = Arrays.equals(want, Arrays.copyOfRange(secret, 3 * plain.n, 4 * plain.n));
            Check.due(what + " is the root", root, q[0] == top && q[1] == 0 && q[2] == p);
            Check.due(what, () -> x.slhNode(set, q[0], q[1], q[2], q[3]), root ? 1 : 0);
            Check.holds(what, x, Check.SHARED, want);
        }
        Check.holds("13 slhNode " + set + " SECRET", x, Check.SECRET, secret);
        byte[] leaf = plain.nodeOf(secret, 0, 5, 0, 2);
        Check.put(x, Check.SECRET, PlainSlh.join(Arrays.copyOf(secret, 3 * plain.n), leaf));
        Check.due("13 any node may be the root in SECRET", () -> x.slhNode(set, 0, 5, 0, 2), 1);
        x.alter(Check.SECRET, 4 * plain.n - 1, 1);
        Check.due("13 its last byte counts", () -> x.slhNode(set, 0, 5, 0, 2), 0);
    }

    /** Packets that are no signatures lead to other roots; which, the document says. */
    private static void junk(int set, PlainSlh plain) {
        for (int round = 0; round < 4; round++) {
            HashTreeSigner x = new HashTreeSigner();
            int how = -(round % 2);
            byte[] open = Check.bytes(2 * plain.n, 29, 5 + round);
            byte[] message = Check.bytes(60 * round, 7, round);
            byte[] packet = Arrays.copyOf(Check.bytes(1200, 57 + 2 * round, round), plain.signature);
            Check.put(x, Check.PUBLIC, open);
            Check.put(x, Check.MESSAGE, message);
            Check.put(x, Check.CONTEXT, CONTEXT);
            Check.put(x, Check.PACKET, Arrays.copyOf(packet, 1200));
            x.resize(Check.PACKET, plain.signature);
            String what = "12 slhVerify of junk " + set + " " + how;
            byte[] want = plain.last(open, PlainSlh.signed(how, CONTEXT, message), packet);
            Check.due(what, () -> x.slhVerify(set, how) ? 1 : 0, 0);
            Check.holds(what, x, Check.SHARED, want);
        }
    }

    private static HashTreeSigner ready(byte[] secret, byte[] r) {
        HashTreeSigner x = new HashTreeSigner();
        Check.put(x, Check.SECRET, secret);
        Check.put(x, Check.RANDOM, r);
        Check.put(x, Check.MESSAGE, MESSAGE);
        Check.put(x, Check.CONTEXT, CONTEXT);
        return x;
    }

    private static byte[] sign(int set, int how, PlainSlh plain, byte[] secret, byte[] r) {
        HashTreeSigner x = ready(secret, r);
        String what = "11 slhSign " + set + " " + how;
        byte[] want = plain.sign(secret, PlainSlh.signed(how, CONTEXT, MESSAGE), r);
        Check.due(what, () -> x.slhSign(set, how), plain.signature);
        Check.holdsSome(what, x, Check.PACKET, want, want.length / 300, 0);
        Check.holds(what + " SECRET", x, Check.SECRET, secret);
        Check.holds(what + " RANDOM", x, Check.RANDOM, r);
        Check.due(what + " PUBLIC", () -> x.length(Check.PUBLIC), 0);
        Check.due(what + " SHARED", () -> x.length(Check.SHARED), 0);
        return want;
    }

    /**
     * With high trees only R is held against PlainSlh, which takes many seconds for the rest: that
     * must lead to the root here, as verify, which junk tests, finds it; KnownAnswersTest reads it.
     */
    private static void signHigh(int set, int how, PlainSlh plain, byte[] secret) {
        byte[] r = how == 0 ? NONE : Check.bytes(plain.n, 91, 7);
        HashTreeSigner x = ready(secret, r);
        byte[] open = plain.publicOf(secret);
        String what = "11 slhSign " + set + " " + how;
        Check.put(x, Check.PUBLIC, open);
        Check.due(what, () -> x.slhSign(set, how), plain.signature);
        byte[] salt = plain.salt(secret, PlainSlh.signed(how, CONTEXT, MESSAGE), r);
        for (int j = 0; j < plain.n; j += 8) {
            int i = j;
            Check.due(what + " R", () -> x.word(Check.PACKET, i), Check.word(salt, i));
        }
        Check.due("12 of " + what, () -> x.slhVerify(set, how) ? 1 : 0, 1);
        Check.holds("12 of " + what, x, Check.SHARED, Arrays.copyOfRange(open, plain.n, 2 * plain.n));
        Check.due("12 of " + what + ", the other way", () -> x.slhVerify(set, -1 - how) ? 1 : 0, 0);
        for (int at = 0; at < plain.signature; at += plain.signature / 40) {
            x.alter(Check.PACKET, at, 1);
            Check.due("12 altered at " + at, () -> x.slhVerify(set, how) ? 1 : 0, 0);
            x.alter(Check.PACKET, at, 1);
        }
        wrongLengths("12 of " + what, x, set, how, plain);
    }

    /** Signs anew, as a whole packet can't be fed within 512 calls, and alters what is verified. */
    private static void verify(int set, int how, PlainSlh plain, byte[] secret, byte[] packet) {
        HashTreeSigner x = ready(secret, how == 0 ? NONE : Check.bytes(plain.n, 91, 7));
        byte[] open = plain.publicOf(secret);
        byte[] root = Arrays.copyOfRange(open, plain.n, 2 * plain.n);
        byte[] signed = PlainSlh.signed(how, CONTEXT, MESSAGE);
        String what = "12 slhVerify " + set + " " + how;
        Check.put(x, Check.PUBLIC, open);
        x.slhSign(set, how);
        Check.due(what, () -> x.slhVerify(set, how) ? 1 : 0, 1);
        Check.holds(what, x, Check.SHARED, root);
        int n = plain.n;
        int trees = n * (1 + plain.k * (1 + plain.a));
        for (int at : new int[] {0, n, trees - 1, trees, trees + n * plain.chains(), packet.length - 1}) {
            x.alter(Check.PACKET, at, 64);
            byte[] want = plain.last(open, signed, Check.changed(packet, at, 64));
            Check.due(what + " PACKET at " + at, () -> x.slhVerify(set, how) ? 1 : 0, 0);
            Check.holds(what + " PACKET at " + at, x, Check.SHARED, want);
            x.alter(Check.PACKET, at, 64);
        }
        for (int at : new int[] {0, n, 2 * n - 1}) {
            x.alter(Check.PUBLIC, at, 1);
            byte[] want = plain.last(Check.changed(open, at, 1), signed, packet);
            Check.due(what + " PUBLIC at " + at, () -> x.slhVerify(set, how) ? 1 : 0, 0);
            Check.holds(what + " PUBLIC at " + at, x, Check.SHARED, want);
            x.alter(Check.PUBLIC, at, 1);
        }
        x.alter(Check.MESSAGE, 149, 1);
        Check.due(what + " MESSAGE", () -> x.slhVerify(set, how) ? 1 : 0, 0);
        x.alter(Check.MESSAGE, 149, 1);
        x.alter(Check.CONTEXT, 0, 1);
        Check.due(what + " CONTEXT counts", () -> x.slhVerify(set, how) ? 1 : 0, how == 0 ? 0 : 1);
        x.alter(Check.CONTEXT, 0, 1);
        Check.due(what + " the other way", () -> x.slhVerify(set, -1 - how) ? 1 : 0, 0);
        Check.due(what + " again", () -> x.slhVerify(set, how) ? 1 : 0, 1);
        wrongLengths(what, x, set, how, plain);
    }

    /** It does not come so far that SHARED would change. */
    private static void wrongLengths(String what, HashTreeSigner x, int set, int how, PlainSlh plain) {
        int right = plain.signature;
        Check.put(x, Check.SHARED, MESSAGE);
        for (int count : new int[] {right + 1, right - 1, plain.n, 0, 65536}) {
            x.copy(Check.PACKET, Check.SPARE);
            x.resize(Check.PACKET, count);
            Check.due(what + " of " + count, () -> x.slhVerify(set, how) ? 1 : 0, 0);
            Check.due(what + " SHARED stays", () -> x.same(Check.SHARED, Check.MESSAGE) ? 1 : 0, 1);
            x.copy(Check.SPARE, Check.PACKET);
        }
        Check.due(what + " at last", () -> x.slhVerify(set, how) ? 1 : 0, 1);
    }

    /** MESSAGE and CONTEXT at their longest, and MESSAGE and CONTEXT of none. */
    private static void longest(int set, PlainSlh plain, byte[] secret) {
        for (int most = 0; most < 2; most++) {
            HashTreeSigner x = ready(secret, NONE);
            byte[] message = Arrays.copyOf(MESSAGE, most * 65536);
            byte[] context = Arrays.copyOf(CONTEXT, most * 255);
            x.resize(Check.MESSAGE, message.length);
            x.resize(Check.CONTEXT, context.length);
            Check.put(x, Check.PUBLIC, plain.publicOf(secret));
            String what = "11 slhSign " + set + " of " + message.length;
            byte[] want = plain.sign(secret, PlainSlh.signed(0, context, message), NONE);
            Check.due(what, () -> x.slhSign(set, 0), plain.signature);
            Check.holdsSome(what, x, Check.PACKET, want, want.length / 200, 3);
            Check.due(what, () -> x.slhVerify(set, 0) ? 1 : 0, 1);
        }
    }
}
