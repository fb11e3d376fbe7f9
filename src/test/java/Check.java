import java.util.Arrays;
import java.util.function.LongSupplier;

/** Counts and prints the answers that are not due, and moves bytes in and out of slots. */
final class Check {
    static final int RANDOM = 0;
    static final int PUBLIC = 1;
    static final int SECRET = 2;
    static final int MESSAGE = 3;
    static final int CONTEXT = 4;
    static final int PACKET = 5;
    static final int SHARED = 6;
    static final int SPARE = 7;

    private static int wrong = 0;

    private Check() {
    }

    static synchronized void due(String what, Object got, Object want) {
        if (!got.equals(want)) {
            wrong++;
            System.out.println(what + ": answered " + got + ", due is " + want);
        }
    }

    /** What a call answers, as a text; an exception is told by its plain name. */
    static String answer(LongSupplier call) {
        try {
            return Long.toString(call.getAsLong());
        } catch (RuntimeException e) {
            return e.getClass().getSimpleName();
        }
    }

    static void due(String what, LongSupplier call, long want) {
        due(what, answer(call), Long.toString(want));
    }

    static void illegal(String what, LongSupplier call) {
        due(what, answer(call), "IllegalArgumentException");
    }

    static void outside(String what, LongSupplier call) {
        due(what, answer(call), "IndexOutOfBoundsException");
    }

    static void state(String what, LongSupplier call) {
        due(what, answer(call), "IllegalStateException");
    }

    static void unsupported(String what, LongSupplier call) {
        due(what, answer(call), "UnsupportedOperationException");
    }

    /** Ends the test with exit code 1 if an answer was wrong. */
    static void done() {
        System.out.println(wrong == 0 ? "all answers are as due" : wrong + " answers are not as due");
        System.exit(wrong == 0 ? 0 : 1);
    }

    /** Puts bytes in a slot by way of an empty tape, or by resize where they are all zeros. */
    static void put(HashTreeSigner x, int slot, byte[] bytes) {
        byte[] padded = Arrays.copyOf(bytes, (bytes.length + 19) / 20 * 20);
        for (int at = 0; at < padded.length; at += 20) {
            x.feed(big(padded, at), big(padded, at + 4), big(padded, at + 8), big(padded, at + 12),
                    big(padded, at + 16));
        }
        x.end(slot, bytes.length);
    }

    private static int big(byte[] row, int at) {
        return (int) (word(row, at) >>> 32);
    }

    static long word(byte[] row, int at) {
        long value = 0;
        for (int j = at; j < at + 8; j++) {
            value = value << 8 | (j < row.length ? row[j] & 255 : 0);
        }
        return value;
    }

    /** Every byte of a slot that should have these. */
    static void holds(String what, HashTreeSigner x, int slot, byte[] want) {
        holdsSome(what, x, slot, want, 8, 0);
    }

    /** Words of a slot that should have these bytes, some bytes apart; and the last byte. */
    static void holdsSome(String what, HashTreeSigner x, int slot, byte[] want, int apart, int first) {
        due(what + " length", () -> x.length(slot), want.length);
        for (int at = first; at < want.length; at += apart) {
            int i = at;
            due(what + " word " + i, () -> x.word(slot, i), word(want, i));
        }
        if (want.length > 0) {
            due(what + " last", () -> x.word(slot, want.length - 1), word(want, want.length - 1));
        }
    }

    static byte[] bytes(int count, int factor, int plus) {
        byte[] all = new byte[count];
        for (int j = 0; j < count; j++) {
            all[j] = (byte) (j * factor + (j >> 8) * 3 + plus);
        }
        return all;
    }

    static byte[] changed(byte[] row, int at, int v) {
        byte[] other = row.clone();
        other[at] ^= (byte) v;
        return other;
    }
}
