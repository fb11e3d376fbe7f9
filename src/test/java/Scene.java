import java.util.Arrays;
import java.util.function.LongSupplier;

/**
 * An object, together with the bytes that its slots and its tape are due to hold. A scene is looked
 * at once, at its end, since the tape can only be seen by emptying it.
 */
final class Scene {
    static final int MOST = 65536;
    /** Up to this length every byte of a slot is looked at. */
    private static final int SHORT = 300;
    private static final int SAMPLES = 12;

    final HashTreeSigner x = new HashTreeSigner();
    private final byte[][] slots = new byte[8][0];
    private byte[] tape = {};

    /** Every slot has bytes of its own, and so has the tape, so that any change is seen. */
    static Scene filled() {
        Scene s = new Scene();
        for (int slot = 0; slot < 8; slot++) {
            s.put(slot, Check.bytes(33 + 2 * slot, 7, 16 * slot + 1));
        }
        return s.feed(0x01020304, -1, Integer.MIN_VALUE, 0, Integer.MAX_VALUE).feed(5, 6, 7, 8, 0x09abcdef);
    }

    /** Makes a slot these bytes; only while the tape is empty. */
    Scene put(int slot, byte[] bytes) {
        Check.put(x, slot, bytes);
        return holds(slot, bytes);
    }

    /** Cuts a slot or fills it up; where it gets bytes more, the last of them is no zero. */
    Scene size(int slot, int n) {
        int had = slots[slot].length;
        x.resize(slot, n);
        holds(slot, Arrays.copyOf(slots[slot], n));
        return n > had ? alter(slot, n - 1, 0xa5) : this;
    }

    Scene alter(int slot, int i, int v) {
        x.alter(slot, i, v);
        return holds(slot, Check.changed(slots[slot], i, v));
    }

    Scene feed(int... five) {
        x.feed(five[0], five[1], five[2], five[3], five[4]);
        byte[] more = new byte[20];
        for (int j = 0; j < 20; j++) {
            more[j] = (byte) (five[j / 4] >>> (24 - 8 * (j % 4)));
        }
        tape = PlainSlh.join(tape, more);
        return this;
    }

    /** Says what a slot is due to hold from now on. */
    Scene holds(int slot, byte[] bytes) {
        slots[slot] = bytes.clone();
        return this;
    }

    /** Says that the tape is due to be empty from now on. */
    Scene emptyTape() {
        tape = new byte[0];
        return this;
    }

    byte[] slot(int slot) {
        return slots[slot].clone();
    }

    byte[] tape() {
        return tape.clone();
    }

    /** A call that answers as is due; what it changes is said with holds. */
    Scene answers(String what, LongSupplier call, long want) {
        Check.due(what, call, want);
        return this;
    }

    /** A call that is refused; behind it every slot and the tape must be as they were. */
    void refuses(String what, String exception, LongSupplier call) {
        Check.due(what, Check.answer(call), exception);
        look(what + ", then");
    }

    void illegal(String what, LongSupplier call) {
        refuses(what, "IllegalArgumentException", call);
    }

    void outside(String what, LongSupplier call) {
        refuses(what, "IndexOutOfBoundsException", call);
    }

    void state(String what, LongSupplier call) {
        refuses(what, "IllegalStateException", call);
    }

    void unsupported(String what, LongSupplier call) {
        refuses(what, "UnsupportedOperationException", call);
    }

    /** Looks at every slot and at the tape. */
    void look(String what) {
        for (int slot = 0; slot < 8; slot++) {
            lookAt(what + " slot " + slot, slot, slots[slot]);
        }
        Check.outside(what + " the tape has no more", () -> x.end(Check.SPARE, tape.length + 1));
        Check.due(what + " the tape has no less", () -> x.end(Check.SPARE, tape.length), tape.length);
        lookAt(what + " the tape", Check.SPARE, tape);
    }

    private void lookAt(String what, int slot, byte[] want) {
        if (want.length <= SHORT) {
            Check.holds(what, x, slot, want);
        } else {
            Check.holdsSome(what, x, slot, want, want.length / SAMPLES, 0);
        }
    }
}
