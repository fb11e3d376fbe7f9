import java.util.Arrays;
import java.util.Random;
import java.util.function.LongSupplier;
import java.util.stream.IntStream;

/**
 * Runs of calls with numbers in and out of range, each answer held against a plain model of the
 * document. The numbers come from fixed seeds, so that every run is the same each time; what a run
 * asks and what is looked at behind it are together no more than the 512 calls of the document.
 */
public final class RandomRunsTest {
    private static final int RUNS = 120;
    private static final int CALLS = 250;
    private static final int MOST = 65536;

    private final Random random;
    private final HashTreeSigner x = new HashTreeSigner();
    private final byte[][] slots = new byte[8][0];
    private byte[] tape = {};
    private int dear = 0;

    private RandomRunsTest(long seed) {
        random = new Random(seed);
    }

    public static void main(String[] args) {
        IntStream.range(0, RUNS).parallel().forEach(run -> new RandomRunsTest(run).run(run));
        Check.done();
    }

    private void run(int run) {
        for (int call = 0; call < CALLS; call++) {
            one("run " + run + ", call " + call + ": ");
        }
        for (int slot = 0; slot < 8; slot++) {
            int apart = Math.max(8, slots[slot].length / 20);
            Check.holdsSome("run " + run + ", slot " + slot, x, slot, slots[slot], apart, 0);
        }
    }

    private void one(String at) {
        int slot = slot();
        int other = slot();
        int set = random.nextInt(20) == 0 ? random.nextInt(16) - 2 : random.nextInt(12);
        int how = random.nextInt(12) == 0 ? random.nextInt(5) - 2 : -random.nextInt(2);
        int place = place(slot);
        int count = count();
        switch (random.nextInt(12)) {
            case 0, 1 -> feed(at);
            case 2 -> held(at + "end " + slot + " " + count, () -> x.end(slot, count), () -> end(slot, count));
            case 3 -> held(at + "copy " + slot + " " + other, () -> x.copy(slot, other), () -> copy(slot, other));
            case 4, 5 -> held(at + "resize " + slot + " " + count, () -> x.resize(slot, count),
                    () -> resize(slot, count));
            case 6 -> {
                int v = random.nextInt(280) - 10;
                held(at + "alter " + slot + " " + place + " " + v, () -> x.alter(slot, place, v),
                        () -> alter(slot, place, v));
            }
            case 7 -> held(at + "word " + slot + " " + place, () -> x.word(slot, place), () -> word(slot, place));
            case 8 -> held(at + "same " + slot + " " + other, () -> x.same(slot, other) ? 1 : 0,
                    () -> same(slot, other));
            case 9 -> {
                if (random.nextInt(4) == 0) {
                    readyToVerify(at, set);
                }
                held(at + "slhVerify " + set + " " + how, () -> x.slhVerify(set, how) ? 1 : 0,
                        () -> verify(set, how));
            }
            case 10 -> signOrKeys(at, set, how);
            default -> node(at, set);
        }
    }

    private static void held(String what, LongSupplier call, LongSupplier model) {
        Check.due(what, Check.answer(call), Check.answer(model));
    }

    private int slot() {
        return random.nextInt(25) == 0 ? random.nextInt(12) - 2 : random.nextInt(8);
    }

    private int place(int slot) {
        int size = slot < 0 || slot > 7 ? 1 : slots[slot].length;
        return random.nextInt(10) == 0 ? random.nextInt() : random.nextInt(size + 3) - 1;
    }

    /** A length that something asks for, or nearly one. */
    private int count() {
        int n = 16 + 8 * random.nextInt(3);
        return switch (random.nextInt(8)) {
            case 0 -> random.nextInt(25);
            case 1 -> n * random.nextInt(5);
            case 2 -> 2 * n;
            case 3 -> 4 * n;
            case 4 -> new PlainSlh(random.nextInt(6)).signature;
            case 5 -> 255 + random.nextInt(2);
            case 6 -> n + random.nextInt(3) - 1;
            default -> random.nextInt(4) == 0 ? MOST + random.nextInt(2) : -random.nextInt(2);
        };
    }

    private void feed(String at) {
        int[] v = random.ints(5).toArray();
        byte[] more = new byte[20];
        for (int j = 0; j < 20; j++) {
            more[j] = (byte) (v[j / 4] >> (24 - 8 * (j % 4)));
        }
        tape = PlainSlh.join(tape, more);
        Check.due(at + "feed", () -> x.feed(v[0], v[1], v[2], v[3], v[4]), tape.length);
    }

    private void range(boolean right) {
        if (!right) {
            throw new IllegalArgumentException();
        }
    }

    private void range(int slot) {
        range(slot >= 0 && slot < 8);
    }

    private long end(int slot, int n) {
        range(slot);
        range(n >= 0 && n <= MOST);
        if (n > tape.length) {
            throw new IndexOutOfBoundsException();
        }
        slots[slot] = Arrays.copyOf(tape, n);
        tape = new byte[0];
        return n;
    }

    private long copy(int from, int to) {
        range(from);
        range(to);
        slots[to] = slots[from].clone();
        return slots[to].length;
    }

    private long resize(int slot, int n) {
        range(slot);
        range(n >= 0 && n <= MOST);
        int had = slots[slot].length;
        slots[slot] = Arrays.copyOf(slots[slot], n);
        return had;
    }

    private void inside(int slot, int i) {
        if (i < 0 || i >= slots[slot].length) {
            throw new IndexOutOfBoundsException();
        }
    }

    private long alter(int slot, int i, int v) {
        range(slot);
        range(v >= 0 && v < 256);
        inside(slot, i);
        slots[slot] = Check.changed(slots[slot], i, v);
        return slots[slot][i] & 255;
    }

    private long word(int slot, int i) {
        range(slot);
        inside(slot, i);
        return Check.word(slots[slot], i);
    }

    private long same(int slot, int other) {
        range(slot);
        range(other);
        return Arrays.equals(slots[slot], slots[other]) ? 1 : 0;
    }

    private PlainSlh plain(int set) {
        range(set >= 0 && set < 12);
        return new PlainSlh(set);
    }

    private void state(boolean right) {
        if (!right) {
            throw new IllegalStateException();
        }
    }

    private void supported(boolean right) {
        if (!right) {
            throw new UnsupportedOperationException();
        }
    }

    /** Gives PUBLIC and PACKET the lengths of a set, which they rarely have by chance. */
    private void readyToVerify(String at, int set) {
        if (set >= 0 && set < 12) {
            PlainSlh plain = plain(set);
            held(at + "resize PUBLIC", () -> x.resize(Check.PUBLIC, 2 * plain.n),
                    () -> resize(Check.PUBLIC, 2 * plain.n));
            held(at + "resize PACKET", () -> x.resize(Check.PACKET, plain.signature),
                    () -> resize(Check.PACKET, plain.signature));
        }
    }

    private long verify(int set, int how) {
        PlainSlh plain = plain(set);
        range(how == 0 || how == -1);
        state(how == -1 || slots[Check.CONTEXT].length < 256);
        supported(slots[Check.PUBLIC].length == 2 * plain.n);
        if (slots[Check.PACKET].length != plain.signature) {
            return 0;
        }
        byte[] signed = PlainSlh.signed(how, slots[Check.CONTEXT], slots[Check.MESSAGE]);
        slots[Check.SHARED] = plain.last(slots[Check.PUBLIC], signed, slots[Check.PACKET]);
        byte[] root = Arrays.copyOfRange(slots[Check.PUBLIC], plain.n, 2 * plain.n);
        return Arrays.equals(slots[Check.SHARED], root) ? 1 : 0;
    }

    /** Only sets with low trees, and few of them, are really signed and made keys of: time is short. */
    private void signOrKeys(String at, int set, int how) {
        int low = set >= 0 && set < 12 ? set | 1 : set;
        if (random.nextBoolean()) {
            held(at + "slhKeys " + low, () -> x.slhKeys(low), () -> keys(low));
        } else if (dear < 1) {
            held(at + "slhSign " + low + " " + how, () -> x.slhSign(low, how), () -> sign(low, how));
        }
    }

    private long keys(int set) {
        PlainSlh plain = plain(set);
        state(slots[Check.RANDOM].length == 3 * plain.n);
        slots[Check.SECRET] = plain.keys(slots[Check.RANDOM]);
        slots[Check.PUBLIC] = plain.publicOf(slots[Check.SECRET]);
        return 4 * plain.n;
    }

    private long sign(int set, int how) {
        PlainSlh plain = plain(set);
        range(how == 0 || how == -1);
        int r = slots[Check.RANDOM].length;
        state((how == -1 || slots[Check.CONTEXT].length < 256) && (r == 0 || r == plain.n));
        supported(slots[Check.SECRET].length == 4 * plain.n);
        dear++;
        byte[] signed = PlainSlh.signed(how, slots[Check.CONTEXT], slots[Check.MESSAGE]);
        slots[Check.PACKET] = plain.sign(slots[Check.SECRET], signed, slots[Check.RANDOM]);
        return plain.signature;
    }

    private void node(String at, int set) {
        int layer = random.nextInt(24) - 1;
        int tree = random.nextInt(10) == 0 ? -1 : random.nextInt() >>> random.nextInt(31) >>> 1;
        int z = random.nextInt(5) - 1;
        int i = random.nextInt(9) - 1;
        held(at + "slhNode " + set + " " + layer + " " + tree + " " + z + " " + i,
                () -> x.slhNode(set, layer, tree, z, i), () -> node(set, layer, tree, z, i));
    }

    private long node(int set, int layer, int tree, int z, int i) {
        PlainSlh plain = plain(set);
        range(layer >= 0 && layer < plain.d && tree >= 0);
        range(z >= 0 && z <= plain.p && i >= 0 && i < 1 << (plain.p - z));
        byte[] secret = slots[Check.SECRET];
        supported(secret.length == 4 * plain.n);
        slots[Check.SHARED] = plain.nodeOf(secret, layer, tree, z, i);
        return Arrays.equals(slots[Check.SHARED], Arrays.copyOfRange(secret, 3 * plain.n, 4 * plain.n)) ? 1 : 0;
    }
}
