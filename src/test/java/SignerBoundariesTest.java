import java.util.Arrays;
import java.util.function.LongSupplier;
import java.util.stream.IntStream;

/**
 * Promises 10 to 14 at their boundaries, at all twelve sets: each number just inside and just outside
 * its range, slots one byte too short and too long, two reasons to throw at once, and that a refused
 * call changes nothing.
 */
public final class SignerBoundariesTest {
    private static final int[] N = {16, 16, 24, 24, 32, 32};
    private static final int[] D = {7, 22, 7, 22, 8, 17};
    private static final int[] P = {9, 3, 9, 3, 8, 4};
    private static final int[] SIGNATURE = {7856, 17088, 16224, 35664, 29792, 49856};
    private static final int MOST = Scene.MOST;
    private static final int LOWEST = Integer.MIN_VALUE;
    private static final int HIGHEST = Integer.MAX_VALUE;
    private static final int[] WRONG_SETS = {-1, 12, LOWEST, HIGHEST};
    private static final int[] WRONG_HOWS = {-2, 1, 255, LOWEST, HIGHEST};
    private static final int[] LONG_CONTEXTS = {256, 257, 511, 512, MOST};

    private final int set;
    private final int n;
    private final int d;
    private final int p;
    private final int signature;

    private SignerBoundariesTest(int set) {
        this.set = set;
        n = N[set % 6];
        d = D[set % 6];
        p = P[set % 6];
        signature = SIGNATURE[set % 6];
    }

    public static void main(String[] args) {
        IntStream.range(0, 12).parallel().forEach(set -> new SignerBoundariesTest(set).all());
        noSuchSet();
        Check.done();
    }

    private void all() {
        keysRefused();
        keys();
        signHowOutOfRange();
        signRandomOfOtherLengths();
        signContextTooLong();
        signSecretOfOtherLengths();
        sign();
        verifyHowOutOfRange();
        verifyContextTooLong();
        verifyPublicOfOtherLengths();
        verifyPacketOfOtherLengths();
        verifyPacketOfZeros();
        nodeOutOfRange();
        nodeSecretOfOtherLengths();
        node();
        rootInSecret();
        behindRefusals();
    }

    /** All that slhSign, slhVerify and slhNode ask for, and RANDOM none. */
    private Scene ready() {
        return Scene.filled().size(Check.RANDOM, 0).size(Check.PUBLIC, 2 * n).size(Check.SECRET, 4 * n)
                .size(Check.PACKET, signature);
    }

    private String at(String what) {
        return what + ", set " + set;
    }

    private static int[] besides(int right, int... others) {
        int[] all = Arrays.copyOf(others, others.length + 2);
        all[others.length] = right - 1;
        all[others.length + 1] = right + 1;
        return all;
    }

    /** The set is looked at first of all, and whatever else is wrong. */
    private static void noSuchSet() {
        for (int wrong : WRONG_SETS) {
            for (int other : new int[] {0, 48, 64, 256, MOST}) {
                Scene keys = sized(other);
                keys.illegal("10 set " + wrong, () -> keys.x.slhKeys(wrong));
                Scene node = sized(other);
                node.illegal("13 set " + wrong, () -> node.x.slhNode(wrong, 0, 0, 0, 0));
                for (int how = -2; how <= 1; how++) {
                    int h = how;
                    Scene sign = sized(other);
                    sign.illegal("11 set " + wrong, () -> sign.x.slhSign(wrong, h));
                    Scene verify = sized(other);
                    verify.illegal("12 set " + wrong, () -> verify.x.slhVerify(wrong, h) ? 1 : 0);
                }
            }
        }
    }

    private static Scene sized(int count) {
        Scene s = Scene.filled();
        for (int slot = Check.RANDOM; slot <= Check.PACKET; slot++) {
            s.size(slot, count);
        }
        return s;
    }

    private void keysRefused() {
        for (int count : besides(3 * n, 0, 1, n, 2 * n, 4 * n, MOST - 1, MOST)) {
            Scene s = Scene.filled().size(Check.RANDOM, count);
            s.state(at("10 RANDOM of " + count), () -> s.x.slhKeys(set));
        }
    }

    /** PUBLIC and SECRET were full, so that what is left of them would be seen behind their ends. */
    private void keys() {
        for (int seed = 0; seed <= (set % 2 == 1 ? 255 : 0); seed += 255) {
            byte[] seeds = new byte[3 * n];
            Arrays.fill(seeds, (byte) seed);
            Scene s = Scene.filled().size(Check.PUBLIC, MOST).size(Check.SECRET, MOST).size(Check.RANDOM, 0);
            s.size(Check.RANDOM, 3 * n);
            for (int j = 0; j < 3 * n; j++) {
                s.alter(Check.RANDOM, j, (s.slot(Check.RANDOM)[j] & 255) ^ seed);
            }
            s.answers(at("10 slhKeys"), () -> s.x.slhKeys(set), 4 * n);
            s.answers(at("10 PUBLIC"), () -> s.x.resize(Check.PUBLIC, MOST), 2 * n);
            s.answers(at("10 SECRET"), () -> s.x.resize(Check.SECRET, MOST), 4 * n);
            PlainSlh plain = new PlainSlh(set);
            byte[] secret = set % 2 == 1 ? plain.keys(seeds) : seenKeys(s, seeds);
            s.holds(Check.SECRET, Arrays.copyOf(secret, MOST));
            s.holds(Check.PUBLIC, Arrays.copyOf(plain.publicOf(secret), MOST));
            s.look(at("10 keys of seeds " + seed));
        }
    }

    /** With high trees the root, which SignaturesTest holds against PlainSlh, is taken as it is. */
    private byte[] seenKeys(Scene s, byte[] seeds) {
        byte[] secret = Arrays.copyOf(seeds, 4 * n);
        for (int j = 3 * n; j < 4 * n; j++) {
            secret[j] = (byte) (s.x.word(Check.SECRET, j) >>> 56);
        }
        return secret;
    }

    private LongSupplier signing(Scene s, int how) {
        return () -> s.x.slhSign(set, how);
    }

    private LongSupplier verifying(Scene s, int how) {
        return () -> s.x.slhVerify(set, how) ? 1 : 0;
    }

    private void signHowOutOfRange() {
        for (int how : WRONG_HOWS) {
            Scene s = ready();
            s.illegal(at("11 how " + how), signing(s, how));
            Scene context = ready().size(Check.CONTEXT, 256);
            context.illegal(at("11 how before CONTEXT " + how), signing(context, how));
            Scene random = ready().size(Check.RANDOM, 1);
            random.illegal(at("11 how before RANDOM " + how), signing(random, how));
            Scene secret = ready().size(Check.SECRET, 0);
            secret.illegal(at("11 how before SECRET " + how), signing(secret, how));
        }
    }

    private void signRandomOfOtherLengths() {
        for (int how = -1; how <= 0; how++) {
            for (int count : besides(n, 1, 2 * n, 3 * n, 4 * n, MOST)) {
                Scene s = ready().size(Check.RANDOM, count);
                s.state(at("11 RANDOM of " + count), signing(s, how));
                Scene two = ready().size(Check.RANDOM, count).size(Check.SECRET, 4 * n - 1);
                two.state(at("11 RANDOM before SECRET, " + count), signing(two, how));
            }
        }
    }

    private void signContextTooLong() {
        for (int count : LONG_CONTEXTS) {
            Scene s = ready().size(Check.CONTEXT, count);
            s.state(at("14 slhSign, CONTEXT of " + count), signing(s, 0));
            Scene random = ready().size(Check.CONTEXT, count).size(Check.RANDOM, n);
            random.state(at("14 slhSign, CONTEXT and RANDOM, " + count), signing(random, 0));
            Scene both = ready().size(Check.CONTEXT, count).size(Check.RANDOM, n + 1);
            both.state(at("14 slhSign, CONTEXT and a wrong RANDOM, " + count), signing(both, 0));
            Scene two = ready().size(Check.CONTEXT, count).size(Check.SECRET, 4 * n + 1);
            two.state(at("14 slhSign, CONTEXT before SECRET, " + count), signing(two, 0));
            Scene pure = ready().size(Check.CONTEXT, count).size(Check.SECRET, 4 * n + 1);
            pure.unsupported(at("14 slhSign -1, CONTEXT of " + count + " is fine"), signing(pure, -1));
        }
    }

    private void signSecretOfOtherLengths() {
        for (int how = -1; how <= 0; how++) {
            for (int count : besides(4 * n, 0, n, 2 * n, 3 * n, MOST)) {
                for (int random = 0; random <= n; random += n) {
                    Scene s = ready().size(Check.SECRET, count).size(Check.RANDOM, random);
                    s.unsupported(at("11 SECRET of " + count), signing(s, how));
                }
            }
            Scene s = ready().size(Check.SECRET, 0).size(Check.CONTEXT, 255);
            s.unsupported(at("14 CONTEXT of 255 is fine, SECRET is not"), signing(s, how));
        }
    }

    /**
     * A signature with each way of RANDOM, and PACKET full before it; no other slot changes, nor does
     * the tape. A SECRET of any bytes will do: its root is one of them.
     */
    private void sign() {
        if (set % 2 == 0) {
            return;
        }
        PlainSlh plain = new PlainSlh(set);
        for (int how = -1; how <= 0; how++) {
            for (int random = 0; random <= n; random += n) {
                Scene s = ready().size(Check.RANDOM, random).size(Check.PACKET, MOST);
                s.size(Check.CONTEXT, how == 0 ? 255 : MOST);
                byte[] signed = PlainSlh.signed(how, s.slot(Check.CONTEXT), s.slot(Check.MESSAGE));
                byte[] want = plain.sign(s.slot(Check.SECRET), signed, s.slot(Check.RANDOM));
                s.answers(at("11 slhSign " + how), signing(s, how), signature);
                s.answers(at("11 PACKET"), () -> s.x.resize(Check.PACKET, MOST), signature);
                s.holds(Check.PACKET, Arrays.copyOf(want, MOST)).look(at("11 RANDOM of " + random));
            }
        }
    }

    private void verifyHowOutOfRange() {
        for (int how : WRONG_HOWS) {
            Scene s = ready();
            s.illegal(at("12 how " + how), verifying(s, how));
            Scene context = ready().size(Check.CONTEXT, 256);
            context.illegal(at("12 how before CONTEXT " + how), verifying(context, how));
            Scene open = ready().size(Check.PUBLIC, 0);
            open.illegal(at("12 how before PUBLIC " + how), verifying(open, how));
            Scene packet = ready().size(Check.PACKET, 0);
            packet.illegal(at("12 how before PACKET " + how), verifying(packet, how));
        }
    }

    private void verifyContextTooLong() {
        for (int count : LONG_CONTEXTS) {
            Scene s = ready().size(Check.CONTEXT, count);
            s.state(at("14 slhVerify, CONTEXT of " + count), verifying(s, 0));
            Scene two = ready().size(Check.CONTEXT, count).size(Check.PUBLIC, 2 * n - 1);
            two.state(at("14 slhVerify, CONTEXT before PUBLIC, " + count), verifying(two, 0));
            Scene packet = ready().size(Check.CONTEXT, count).size(Check.PACKET, signature - 1);
            packet.state(at("14 slhVerify, CONTEXT before PACKET, " + count), verifying(packet, 0));
            Scene pure = ready().size(Check.CONTEXT, count).size(Check.PUBLIC, 2 * n - 1);
            pure.unsupported(at("14 slhVerify -1, CONTEXT of " + count + " is fine"), verifying(pure, -1));
        }
        for (int how = -1; how <= 0; how++) {
            Scene s = ready().size(Check.CONTEXT, 255).size(Check.PUBLIC, 2 * n + 1);
            s.unsupported(at("14 CONTEXT of 255 is fine, PUBLIC is not"), verifying(s, how));
        }
    }

    private void verifyPublicOfOtherLengths() {
        for (int how = -1; how <= 0; how++) {
            for (int count : besides(2 * n, 0, n, 3 * n, 4 * n, MOST)) {
                Scene s = ready().size(Check.PUBLIC, count);
                s.unsupported(at("12 PUBLIC of " + count), verifying(s, how));
                Scene packet = ready().size(Check.PUBLIC, count).size(Check.PACKET, signature + 1);
                packet.unsupported(at("12 PUBLIC before PACKET, " + count), verifying(packet, how));
            }
        }
    }

    /** That is no refusal, but it does not come so far that SHARED would change. */
    private void verifyPacketOfOtherLengths() {
        int brother = SIGNATURE[(set % 6) ^ 1];
        for (int how = -1; how <= 0; how++) {
            for (int count : besides(signature, 0, 1, n, brother, MOST)) {
                Scene s = ready().size(Check.PACKET, count).size(Check.SHARED, 200);
                s.answers(at("12 PACKET of " + count), verifying(s, how), 0);
                s.look(at("12 PACKET of " + count));
            }
        }
        Scene s = ready().size(Check.PACKET, signature - 1).size(Check.CONTEXT, MOST);
        s.answers(at("14 slhVerify -1, any CONTEXT"), verifying(s, -1), 0).look(at("14 any CONTEXT"));
    }

    /** Of zeros with RANDOM and SECRET of any length; SHARED was full, and no other slot changes. */
    private void verifyPacketOfZeros() {
        PlainSlh plain = new PlainSlh(set);
        for (int how = -1; how <= 0; how++) {
            int count = how == 0 ? 255 : 256;
            Scene s = ready().size(Check.RANDOM, 5).size(Check.SECRET, 1).size(Check.SHARED, MOST);
            s.size(Check.CONTEXT, count).size(Check.PACKET, 0);
            s.x.resize(Check.PACKET, signature);
            s.holds(Check.PACKET, new byte[signature]);
            byte[] signed = PlainSlh.signed(how, s.slot(Check.CONTEXT), s.slot(Check.MESSAGE));
            byte[] want = plain.last(s.slot(Check.PUBLIC), signed, s.slot(Check.PACKET));
            s.answers(at("12 PACKET of zeros"), verifying(s, how), 0);
            s.answers(at("12 SHARED"), () -> s.x.resize(Check.SHARED, MOST), n);
            s.holds(Check.SHARED, Arrays.copyOf(want, MOST)).look(at("12 PACKET of zeros"));
        }
    }

    private LongSupplier node(Scene s, int layer, int tree, int z, int i) {
        return () -> s.x.slhNode(set, layer, tree, z, i);
    }

    /** Each number alone, and with a SECRET that is wrong, too. */
    private void nodeOutOfRange() {
        int[][] wrong = {
            {-1, 0, 0, 0}, {d, 0, 0, 0}, {d + 1, 0, 0, 0}, {LOWEST, 0, 0, 0}, {HIGHEST, 0, 0, 0},
            {0, -1, 0, 0}, {d - 1, -1, p, 0}, {0, LOWEST, 0, 0},
            {0, 0, -1, 0}, {0, 0, p + 1, 0}, {0, 0, p - 32, 0}, {0, 0, p + 32, 0}, {0, 0, LOWEST, 0},
            {0, 0, HIGHEST, 0}, {d, -1, p + 1, -1}
        };
        for (int[] q : wrong) {
            nodeIllegal(q);
        }
        for (int z = 0; z <= p; z++) {
            int beyond = 1 << (p - z);
            for (int i : new int[] {-1, beyond, beyond + 1, 1 << p << 1, LOWEST, HIGHEST}) {
                nodeIllegal(new int[] {d - 1, 0, z, i});
            }
        }
    }

    private void nodeIllegal(int[] q) {
        for (int count : new int[] {4 * n, 4 * n - 1, 0}) {
            Scene s = ready().size(Check.SECRET, count);
            s.illegal(at("13 " + Arrays.toString(q)), node(s, q[0], q[1], q[2], q[3]));
        }
    }

    private void nodeSecretOfOtherLengths() {
        for (int count : besides(4 * n, 0, n, 2 * n, 3 * n, MOST)) {
            Scene low = ready().size(Check.SECRET, count);
            low.unsupported(at("13 SECRET of " + count), node(low, 0, 0, 0, 0));
            Scene high = ready().size(Check.SECRET, count);
            high.unsupported(at("13 SECRET of " + count), node(high, d - 1, HIGHEST, p, 0));
            Scene last = ready().size(Check.SECRET, count);
            last.unsupported(at("13 SECRET of " + count), node(last, d - 1, 0, 0, (1 << p) - 1));
        }
    }

    /**
     * Both ends of each range; SHARED was full, and RANDOM, PUBLIC and CONTEXT are of lengths that
     * other calls would refuse. Where trees are high only their lower nodes: time is short.
     */
    private void node() {
        PlainSlh plain = new PlainSlh(set);
        int highest = set % 2 == 1 ? p : 2;
        for (int z = 0; z <= highest; z++) {
            int last = (1 << (p - z)) - 1;
            int[][] places = {{0, 0, z, 0}, {d - 1, HIGHEST, z, last}, {0, HIGHEST, z, last}, {d - 1, 0, z, 0}};
            for (int[] q : places) {
                Scene s = ready().size(Check.RANDOM, 1).size(Check.PUBLIC, 0).size(Check.CONTEXT, 256);
                s.size(Check.SHARED, MOST);
                String what = at("13 " + Arrays.toString(q));
                byte[] want = plain.nodeOf(s.slot(Check.SECRET), q[0], q[1], q[2], q[3]);
                s.answers(what, node(s, q[0], q[1], q[2], q[3]), 0);
                s.answers(what + " SHARED", () -> s.x.resize(Check.SHARED, MOST), n);
                s.holds(Check.SHARED, Arrays.copyOf(want, MOST)).look(what);
            }
        }
    }

    /** Any node may be the root in SECRET; each byte of it counts. */
    private void rootInSecret() {
        Scene s = ready();
        int last = (1 << p) - 1;
        byte[] leaf = new PlainSlh(set).nodeOf(s.slot(Check.SECRET), 0, HIGHEST, 0, last);
        for (int j = 0; j < n; j++) {
            s.alter(Check.SECRET, 3 * n + j, (s.slot(Check.SECRET)[3 * n + j] ^ leaf[j]) & 255);
        }
        s.answers(at("13 it is the root"), node(s, 0, HIGHEST, 0, last), 1);
        for (int j = 3 * n; j < 4 * n; j++) {
            s.alter(Check.SECRET, j, 1);
            s.answers(at("13 but for byte " + j), node(s, 0, HIGHEST, 0, last), 0);
            s.alter(Check.SECRET, j, 1);
        }
        s.holds(Check.SHARED, leaf).look(at("13 it is the root"));
    }

    /** Behind refused calls of every kind the answers are those of an object that refused none. */
    private void behindRefusals() {
        PlainSlh plain = new PlainSlh(set);
        Scene s = ready();
        HashTreeSigner x = s.x;
        byte[] signed = PlainSlh.signed(0, s.slot(Check.CONTEXT), s.slot(Check.MESSAGE));
        byte[] want = plain.last(s.slot(Check.PUBLIC), signed, s.slot(Check.PACKET));
        int otherSize = n == 16 ? 10 : 0;
        LongSupplier[] refused = {
            () -> x.slhKeys(set), () -> x.slhKeys(12), () -> x.slhSign(set, 1), () -> x.slhSign(otherSize, 0),
            () -> x.slhVerify(otherSize, 0) ? 1 : 0, () -> x.slhVerify(-1, 0) ? 1 : 0,
            () -> x.slhNode(otherSize, 0, 0, 0, 0), () -> x.slhNode(set, 0, 0, 0, 1 << p),
            () -> x.end(0, s.tape().length + 1), () -> x.alter(Check.PACKET, signature, 1), () -> x.word(8, 0)
        };
        for (LongSupplier call : refused) {
            Check.due(at("14 refused"), Check.answer(call).endsWith("Exception"), true);
        }
        s.answers(at("14 behind refusals"), verifying(s, 0), 0);
        s.holds(Check.SHARED, want).look(at("14 behind refusals"));
    }
}
