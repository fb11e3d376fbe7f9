import java.math.BigInteger;
import java.security.GeneralSecurityException;
import java.security.MessageDigest;
import java.util.Arrays;
import javax.crypto.Mac;
import javax.crypto.spec.SecretKeySpec;

/**
 * The signatures once more, as slowly and as near to the document's words as can be: the tests hold
 * the class against it. SHA-2 and HMAC are the Java library's; SPONGE is written here, and
 * SpongeTest holds it against the library's SHA3-256.
 */
final class PlainSlh {
    private static final int[][] NUMBERS = {
        {16, 63, 7, 12, 14}, {16, 66, 22, 6, 33}, {24, 63, 7, 14, 17},
        {24, 66, 22, 8, 33}, {32, 64, 8, 14, 22}, {32, 68, 17, 9, 35}
    };

    final int n;
    final int h;
    final int d;
    final int a;
    final int k;
    final int p;
    final int signature;
    private final boolean shake;
    private final MessageDigest sha256 = library("SHA-256");
    private final MessageDigest sha512 = library("SHA-512");
    private byte[] secretSeed = {};
    private byte[] publicSeed = {};

    PlainSlh(int set) {
        int[] five = NUMBERS[set % 6];
        n = five[0];
        h = five[1];
        d = five[2];
        a = five[3];
        k = five[4];
        p = h / d;
        signature = n * (1 + k * (1 + a) + h + d * chains());
        shake = set < 6;
    }

    int chains() {
        return 2 * n + 3;
    }

    /** SECRET of the three seeds. */
    byte[] keys(byte[] seeds) {
        secretSeed = Arrays.copyOf(seeds, n);
        publicSeed = Arrays.copyOfRange(seeds, 2 * n, 3 * n);
        return join(seeds, node(d - 1, BigInteger.ZERO, p, 0));
    }

    byte[] publicOf(byte[] secret) {
        return Arrays.copyOfRange(secret, 2 * n, 4 * n);
    }

    byte[] nodeOf(byte[] secret, int layer, long tree, int z, int i) {
        secretSeed = Arrays.copyOf(secret, n);
        publicSeed = Arrays.copyOfRange(secret, 2 * n, 3 * n);
        return node(layer, BigInteger.valueOf(tree), z, i);
    }

    static byte[] signed(int how, byte[] context, byte[] message) {
        return how == 0 ? join(new byte[] {0, (byte) context.length}, context, message) : message;
    }

    /** The R of a signature of x; r none is the public seed. */
    byte[] salt(byte[] secret, byte[] x, byte[] r) {
        byte[] prf = Arrays.copyOfRange(secret, n, 2 * n);
        return randomizer(prf, r.length == 0 ? Arrays.copyOfRange(secret, 2 * n, 3 * n) : r, x);
    }

    /** The signature of x; r none is the public seed. */
    byte[] sign(byte[] secret, byte[] x, byte[] r) {
        secretSeed = Arrays.copyOf(secret, n);
        publicSeed = Arrays.copyOfRange(secret, 2 * n, 3 * n);
        byte[] root = Arrays.copyOfRange(secret, 3 * n, 4 * n);
        byte[] salt = salt(secret, x, r);
        Choice c = new Choice(digest(salt, root, x));
        byte[] all = salt;
        byte[] part = forestSign(c);
        byte[] value = forestRoot(c, part);
        all = join(all, part);
        for (int layer = 0; layer < d; layer++) {
            part = treeSign(value, layer, c.tree, c.leaf);
            value = treeRoot(value, part, layer, c.tree, c.leaf);
            all = join(all, part);
            c.up();
        }
        return all;
    }

    /** The last x of a signature of the right length. */
    byte[] last(byte[] open, byte[] x, byte[] packet) {
        Choice c = choice(open, x, Arrays.copyOf(packet, n));
        int at = n;
        int size = k * (1 + a) * n;
        byte[] value = forestRoot(c, Arrays.copyOfRange(packet, at, at + size));
        at += size;
        size = (chains() + p) * n;
        for (int layer = 0; layer < d; layer++) {
            value = treeRoot(value, Arrays.copyOfRange(packet, at, at + size), layer, c.tree, c.leaf);
            at += size;
            c.up();
        }
        return value;
    }

    /** What R and a message choose. */
    Choice choice(byte[] open, byte[] x, byte[] salt) {
        publicSeed = Arrays.copyOf(open, n);
        return new Choice(digest(salt, Arrays.copyOfRange(open, n, 2 * n), x));
    }

    /** What a digest chooses. */
    final class Choice {
        final int[] leaves = new int[k];
        BigInteger tree;
        int leaf;

        Choice(byte[] g) {
            int u = (k * a + 7) / 8;
            int v = (h - p + 7) / 8;
            BigInteger bits = new BigInteger(1, Arrays.copyOf(g, u)).shiftRight(8 * u - k * a);
            for (int j = 0; j < k; j++) {
                leaves[j] = bits.shiftRight((k - 1 - j) * a).mod(BigInteger.ONE.shiftLeft(a)).intValue();
            }
            tree = new BigInteger(1, Arrays.copyOfRange(g, u, u + v)).mod(BigInteger.ONE.shiftLeft(h - p));
            leaf = new BigInteger(1, Arrays.copyOfRange(g, u + v, g.length))
                    .mod(BigInteger.ONE.shiftLeft(p)).intValue();
        }

        void up() {
            leaf = tree.mod(BigInteger.ONE.shiftLeft(p)).intValue();
            tree = tree.shiftRight(p);
        }
    }

    private byte[] address(int layer, BigInteger tree, int type, int x, int y, int z) {
        byte[] words = join(be(x, 4), be(y, 4), be(z, 4));
        if (shake) {
            return join(be(layer, 4), be(tree, 12), be(type, 4), words);
        }
        return join(be(layer, 1), be(tree, 8), be(type, 1), words);
    }

    private byte[] f(byte[] address, byte[] x) {
        if (shake) {
            return sponge(136, 31, join(publicSeed, address, x), n);
        }
        boolean wide = n > 16 && x.length > n;
        byte[] seed = Arrays.copyOf(publicSeed, wide ? 128 : 64);
        return Arrays.copyOf(hash(wide, join(seed, address, x)), n);
    }

    private byte[] randomizer(byte[] prf, byte[] r, byte[] x) {
        if (shake) {
            return sponge(136, 31, join(prf, r, x), n);
        }
        try {
            String name = n == 16 ? "HmacSHA256" : "HmacSHA512";
            Mac mac = Mac.getInstance(name);
            mac.init(new SecretKeySpec(prf, name));
            return Arrays.copyOf(mac.doFinal(join(r, x)), n);
        } catch (GeneralSecurityException e) {
            throw new IllegalStateException(e);
        }
    }

    private byte[] digest(byte[] salt, byte[] root, byte[] x) {
        int m = (k * a + 7) / 8 + (h - p + 7) / 8 + (p + 7) / 8;
        byte[] whole = join(salt, publicSeed, root, x);
        if (shake) {
            return sponge(136, 31, whole, m);
        }
        byte[] seed = join(salt, publicSeed, hash(n > 16, whole));
        return Arrays.copyOf(join(hash(n > 16, join(seed, be(0, 4))), hash(n > 16, join(seed, be(1, 4)))), m);
    }

    private byte[] chain(byte[] x, int from, int to, int layer, BigInteger tree, int pair, int j) {
        byte[] value = x;
        for (int s = from; s < to; s++) {
            value = f(address(layer, tree, 0, pair, j, s), value);
        }
        return value;
    }

    private byte[] chainSecret(int layer, BigInteger tree, int pair, int j) {
        return f(address(layer, tree, 5, pair, j, 0), secretSeed);
    }

    private int[] digits(byte[] x) {
        int[] all = new int[chains()];
        int sum = 0;
        for (int j = 0; j < 2 * n; j++) {
            all[j] = (x[j / 2] & 255) / (j % 2 == 0 ? 16 : 1) % 16;
            sum += 15 - all[j];
        }
        all[2 * n] = sum / 256;
        all[2 * n + 1] = sum / 16 % 16;
        all[2 * n + 2] = sum % 16;
        return all;
    }

    private byte[] leaf(int layer, BigInteger tree, int pair) {
        byte[][] ends = new byte[chains()][];
        for (int j = 0; j < ends.length; j++) {
            ends[j] = chain(chainSecret(layer, tree, pair, j), 0, 15, layer, tree, pair, j);
        }
        return f(address(layer, tree, 1, pair, 0, 0), join(ends));
    }

    private byte[] node(int layer, BigInteger tree, int z, int i) {
        if (z == 0) {
            return leaf(layer, tree, i);
        }
        byte[] two = join(node(layer, tree, z - 1, 2 * i), node(layer, tree, z - 1, 2 * i + 1));
        return f(address(layer, tree, 2, 0, z, i), two);
    }

    private byte[] treeSign(byte[] x, int layer, BigInteger tree, int i) {
        int[] to = digits(x);
        byte[][] parts = new byte[chains() + p][];
        for (int j = 0; j < chains(); j++) {
            parts[j] = chain(chainSecret(layer, tree, i, j), 0, to[j], layer, tree, i, j);
        }
        for (int j = 0; j < p; j++) {
            parts[chains() + j] = node(layer, tree, j, (i >> j) ^ 1);
        }
        return join(parts);
    }

    private byte[] treeRoot(byte[] x, byte[] s, int layer, BigInteger tree, int i) {
        int[] from = digits(x);
        byte[][] ends = new byte[chains()][];
        for (int j = 0; j < ends.length; j++) {
            ends[j] = chain(piece(s, j), from[j], 15, layer, tree, i, j);
        }
        byte[] value = f(address(layer, tree, 1, i, 0, 0), join(ends));
        for (int j = 0; j < p; j++) {
            byte[] other = piece(s, chains() + j);
            byte[] two = (i >> j) % 2 == 0 ? join(value, other) : join(other, value);
            value = f(address(layer, tree, 2, 0, j + 1, i >> (j + 1)), two);
        }
        return value;
    }

    private byte[] forestSecret(Choice c, int index) {
        return f(address(0, c.tree, 6, c.leaf, 0, index), secretSeed);
    }

    private byte[] forestNode(Choice c, int z, int j) {
        byte[] x = z == 0 ? forestSecret(c, j)
                : join(forestNode(c, z - 1, 2 * j), forestNode(c, z - 1, 2 * j + 1));
        return f(address(0, c.tree, 3, c.leaf, z, j), x);
    }

    private byte[] forestSign(Choice c) {
        byte[][] parts = new byte[k * (1 + a)][];
        int at = 0;
        for (int j = 0; j < k; j++) {
            int index = (j << a) + c.leaves[j];
            parts[at++] = forestSecret(c, index);
            for (int z = 0; z < a; z++) {
                parts[at++] = forestNode(c, z, (index >> z) ^ 1);
            }
        }
        return join(parts);
    }

    private byte[] forestRoot(Choice c, byte[] s) {
        byte[][] roots = new byte[k][];
        for (int j = 0; j < k; j++) {
            int index = (j << a) + c.leaves[j];
            int at = j * (1 + a);
            byte[] value = f(address(0, c.tree, 3, c.leaf, 0, index), piece(s, at));
            for (int z = 0; z < a; z++) {
                byte[] other = piece(s, at + 1 + z);
                byte[] two = (index >> z) % 2 == 0 ? join(value, other) : join(other, value);
                value = f(address(0, c.tree, 3, c.leaf, z + 1, index >> (z + 1)), two);
            }
            roots[j] = value;
        }
        return f(address(0, c.tree, 4, c.leaf, 0, 0), join(roots));
    }

    private byte[] piece(byte[] s, int j) {
        return Arrays.copyOfRange(s, j * n, (j + 1) * n);
    }

    static byte[] join(byte[]... parts) {
        int size = 0;
        for (byte[] part : parts) {
            size += part.length;
        }
        byte[] all = new byte[size];
        int at = 0;
        for (byte[] part : parts) {
            System.arraycopy(part, 0, all, at, part.length);
            at += part.length;
        }
        return all;
    }

    private static byte[] be(int v, int count) {
        byte[] all = new byte[count];
        for (int j = 0; j < count; j++) {
            all[count - 1 - j] = (byte) (v >>> (8 * j));
        }
        return all;
    }

    private static byte[] be(BigInteger v, int count) {
        byte[] digits = v.toByteArray();
        byte[] all = new byte[count];
        for (int j = 0; j < Math.min(count, digits.length); j++) {
            all[count - 1 - j] = digits[digits.length - 1 - j];
        }
        return all;
    }

    private byte[] hash(boolean wide, byte[] x) {
        return (wide ? sha512 : sha256).digest(x);
    }

    private static MessageDigest library(String name) {
        try {
            return MessageDigest.getInstance(name);
        } catch (GeneralSecurityException e) {
            throw new IllegalStateException(e);
        }
    }

    static byte[] sponge(int rate, int s, byte[] x, int count) {
        byte[] padded = Arrays.copyOf(x, (x.length / rate + 1) * rate);
        padded[x.length] = (byte) s;
        padded[padded.length - 1] ^= (byte) 128;
        long[][] lanes = new long[5][5];
        for (int at = 0; at < padded.length; at += rate) {
            for (int j = 0; j < rate; j++) {
                lanes[j / 8 % 5][j / 40] ^= (padded[at + j] & 255L) << (8 * (j % 8));
            }
            permute(lanes);
        }
        byte[] out = new byte[count];
        for (int j = 0; j < count; j++) {
            int i = j % rate;
            if (j > 0 && i == 0) {
                permute(lanes);
            }
            out[j] = (byte) (lanes[i / 8 % 5][i / 40] >>> (8 * (i % 8)));
        }
        return out;
    }

    private static final int[][] TURNS = turns();
    private static final long[] ROUNDS = rounds();

    private static int[][] turns() {
        int[][] all = new int[5][5];
        int x = 1;
        int y = 0;
        for (int t = 0; t < 24; t++) {
            all[x][y] = (t + 1) * (t + 2) / 2 % 64;
            int next = (2 * x + 3 * y) % 5;
            x = y;
            y = next;
        }
        return all;
    }

    private static long[] rounds() {
        long[] all = new long[24];
        int register = 1;
        for (int t = 0; t < 7 * 24; t++) {
            all[t / 7] |= (register & 1L) << ((1 << (t % 7)) - 1);
            register <<= 1;
            if (register > 255) {
                register = (register & 255) ^ 113;
            }
        }
        return all;
    }

    private static void permute(long[][] lanes) {
        long[] c = new long[5];
        long[][] b = new long[5][5];
        for (int round = 0; round < 24; round++) {
            for (int x = 0; x < 5; x++) {
                c[x] = lanes[x][0] ^ lanes[x][1] ^ lanes[x][2] ^ lanes[x][3] ^ lanes[x][4];
            }
            for (int x = 0; x < 5; x++) {
                long change = c[(x + 4) % 5] ^ Long.rotateLeft(c[(x + 1) % 5], 1);
                for (int y = 0; y < 5; y++) {
                    b[y][(2 * x + 3 * y) % 5] = Long.rotateLeft(lanes[x][y] ^ change, TURNS[x][y]);
                }
            }
            for (int x = 0; x < 5; x++) {
                long[] next = b[(x + 1) % 5];
                long[] second = b[(x + 2) % 5];
                for (int y = 0; y < 5; y++) {
                    lanes[x][y] = b[x][y] ^ (~next[y] & second[y]);
                }
            }
            lanes[0][0] ^= ROUNDS[round];
        }
    }
}
