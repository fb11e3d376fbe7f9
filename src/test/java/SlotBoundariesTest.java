import java.util.Arrays;

/**
 * Promises 1 to 9 at their boundaries: each number just inside and just outside its range, slots and
 * the tape empty and full, two reasons to throw at once, and what a refused call leaves as it was.
 */
public final class SlotBoundariesTest {
    private static final int MOST = Scene.MOST;
    private static final int[] WRONG_SLOTS = {-1, 8, Integer.MIN_VALUE, Integer.MAX_VALUE};
    private static final int[] WRONG_COUNTS = {-1, MOST + 1, Integer.MIN_VALUE, Integer.MAX_VALUE};
    private static final int[] WRONG_BYTES = {-1, 256, Integer.MIN_VALUE, Integer.MAX_VALUE};
    /** The bytes on the tape of a filled scene. */
    private static final int FED = 40;

    public static void main(String[] args) {
        emptySlots();
        emptyTape();
        keysOfNothing();
        feedAnyInts();
        lastCallOfAll();
        roomForTwentyMore();
        endOutOfRange();
        endOfMoreThanTheTapeHas();
        endInRange();
        copyOutOfRange();
        copyInRange();
        resizeOutOfRange();
        resizeInRange();
        alterOutOfRange();
        alterNoByte();
        alterInRange();
        lengths();
        wordNoByte();
        wordInRange();
        sameOutOfRange();
        sameInRange();
        Check.done();
    }

    private static void emptySlots() {
        for (int slot = 0; slot < 8; slot++) {
            int s = slot;
            Scene all = new Scene();
            all.answers("1 length", () -> all.x.length(s), 0);
            for (int t = 0; t < 8; t++) {
                int other = t;
                all.answers("1 all are alike", () -> all.x.same(s, other) ? 1 : 0, 1);
                all.answers("1 copy of none", () -> all.x.copy(s, other), 0);
            }
            all.answers("1 resize of none", () -> all.x.resize(s, 0), 0);
            all.outside("1 word of none", () -> all.x.word(s, 0));
            Scene two = new Scene();
            two.outside("1 alter of none", () -> two.x.alter(s, 0, 0));
        }
    }

    private static void emptyTape() {
        for (int slot = 0; slot < 8; slot++) {
            int s = slot;
            Scene one = new Scene();
            one.outside("1 the tape has no byte", () -> one.x.end(s, 1));
            Scene none = new Scene();
            none.answers("1 none of an empty tape", () -> none.x.end(s, 0), 0).look("1 end of none");
        }
    }

    private static void keysOfNothing() {
        for (int set = 0; set < 12; set++) {
            int s = set;
            Scene keys = new Scene();
            keys.state("1 no RANDOM", () -> keys.x.slhKeys(s));
            Scene node = new Scene();
            node.unsupported("1 no SECRET for slhNode", () -> node.x.slhNode(s, 0, 0, 0, 0));
            for (int how = -1; how <= 0; how++) {
                int h = how;
                Scene sign = new Scene();
                sign.unsupported("1 no SECRET for slhSign", () -> sign.x.slhSign(s, h));
                Scene verify = new Scene();
                verify.unsupported("1 no PUBLIC", () -> verify.x.slhVerify(s, h) ? 1 : 0);
            }
        }
    }

    private static void feedAnyInts() {
        int[] edges = {0, 1, -1, 0x7f, 0x80, 0xff, 0x8000, Integer.MIN_VALUE, Integer.MAX_VALUE};
        for (int place = 0; place < 5; place++) {
            Scene s = new Scene();
            for (int v : edges) {
                int[] five = {0x11111111, 0x22222222, 0x33333333, 0x44444444, 0x55555555};
                five[place] = v;
                s.feed(five);
            }
            s.look("2 each int in place " + place);
        }
    }

    /** Promised are 512 calls: the last of them, too. */
    private static void lastCallOfAll() {
        HashTreeSigner fed = new HashTreeSigner();
        for (int call = 1; call <= 512; call++) {
            int due = 20 * call;
            Check.due("2 feed, call " + call, () -> fed.feed(due, 0, 0, 0, 0), due);
        }
        HashTreeSigner ended = new HashTreeSigner();
        for (int call = 1; call <= 511; call++) {
            ended.feed(call, 0, 0, 0, call);
        }
        Check.due("3 end, call 512", () -> ended.end(0, 511 * 20), 511 * 20);
    }

    /**
     * Within 512 calls no tape comes near its end: this takes more, whose answers are free, but it is
     * plain what they should be. 65536 is no multiple of 20, so that 16 places stay empty.
     */
    private static void roomForTwentyMore() {
        HashTreeSigner x = new HashTreeSigner();
        int last = MOST / 20;
        for (int j = 1; j < last; j++) {
            int fed = 20 * j;
            Check.due("2 room for 20 more, feed " + j, () -> x.feed(mark(fed), 0, 0, 0, -fed), fed);
        }
        Check.due("2 just room", () -> x.feed(mark(20 * last), 0, 0, 0, -1), 20 * last);
        for (int j = 0; j < 3; j++) {
            Check.outside("2 no room", () -> x.feed(-1, -1, -1, -1, -1));
        }
        Check.outside("2 the tape has no more", () -> x.end(0, 20 * last + 1));
        Check.outside("3 n at its most", () -> x.end(0, MOST));
        Check.due("2 the tape has no less", () -> x.end(0, 20 * last), 20 * last);
        for (int j = 1; j < last; j++) {
            int fed = 20 * j;
            Check.due("2 byte " + fed, () -> x.word(0, fed - 20) >>> 32, mark(fed));
            Check.due("2 byte " + fed, () -> (int) x.word(0, fed - 8), -fed);
        }
        Check.due("2 the last bytes", () -> x.word(0, 20 * last - 8), 0xffffffffL);
        Check.outside("2 nothing behind", () -> x.word(0, 20 * last));
        x.resize(0, MOST);
        Check.due("2 zeros behind", () -> x.word(0, 20 * last) | x.word(0, MOST - 8), 0);
        Check.due("3 the tape is empty", () -> x.feed(1, 2, 3, 4, 5), 20);
    }

    private static int mark(int fed) {
        return fed * 31 + 7;
    }

    private static void endOutOfRange() {
        for (int slot : WRONG_SLOTS) {
            for (int n : new int[] {-1, 0, FED, FED + 1, MOST, MOST + 1}) {
                Scene s = Scene.filled();
                s.illegal("3 slot " + slot + " n " + n, () -> s.x.end(slot, n));
            }
        }
        for (int n : WRONG_COUNTS) {
            for (int slot = 0; slot < 8; slot += 7) {
                int t = slot;
                Scene s = Scene.filled();
                s.illegal("3 n " + n, () -> s.x.end(t, n));
                Scene empty = new Scene();
                empty.illegal("3 n of an empty tape " + n, () -> empty.x.end(t, n));
            }
        }
    }

    private static void endOfMoreThanTheTapeHas() {
        for (int slot = 0; slot < 8; slot++) {
            int t = slot;
            for (int n : new int[] {FED + 1, FED + 20, MOST - 1, MOST}) {
                Scene s = Scene.filled();
                s.outside("3 the tape has fewer than " + n, () -> s.x.end(t, n));
            }
        }
        Scene again = Scene.filled();
        Check.outside("3 one more", () -> again.x.end(2, FED + 1));
        again.answers("3 behind a refused end", () -> again.x.end(2, FED), FED);
        again.holds(2, again.tape()).emptyTape().look("3 behind a refused end");
    }

    private static void endInRange() {
        for (int slot = 0; slot < 8; slot++) {
            int t = slot;
            for (int n : new int[] {0, 1, 19, 20, 21, FED - 1, FED}) {
                Scene s = Scene.filled();
                s.answers("3 end " + n, () -> s.x.end(t, n), n);
                s.holds(t, Arrays.copyOf(s.tape(), n)).emptyTape();
                s.look("3 end " + n);
            }
        }
        Scene s = Scene.filled();
        s.size(4, MOST).answers("3 a long slot becomes short", () -> s.x.end(4, 3), 3);
        s.holds(4, Arrays.copyOf(s.tape(), 3)).emptyTape();
        s.answers("3 behind it", () -> s.x.resize(4, 100), 3);
        s.holds(4, Arrays.copyOf(s.slot(4), 100)).look("3 nothing of the long slot is left");
        Scene none = Scene.filled();
        none.answers("3 none", () -> none.x.end(0, 0), 0).holds(0, new byte[0]).emptyTape();
        none.answers("3 none again", () -> none.x.end(1, 0), 0).holds(1, new byte[0]);
        none.feed(1, 2, 3, 4, 5).look("3 feed behind an end");
    }

    private static void copyOutOfRange() {
        for (int wrong : WRONG_SLOTS) {
            for (int right = 0; right < 8; right += 7) {
                int t = right;
                Scene from = Scene.filled();
                from.illegal("4 from " + wrong, () -> from.x.copy(wrong, t));
                Scene to = Scene.filled();
                to.illegal("4 to " + wrong, () -> to.x.copy(t, wrong));
            }
            Scene both = Scene.filled();
            both.illegal("4 from and to " + wrong, () -> both.x.copy(wrong, wrong));
        }
    }

    private static void copyInRange() {
        for (int from = 0; from < 8; from++) {
            for (int to = 0; to < 8; to++) {
                int f = from;
                int t = to;
                Scene s = Scene.filled();
                s.answers("4 copy " + f + " " + t, () -> s.x.copy(f, t), 33 + 2 * f);
                s.holds(t, s.slot(f)).look("4 copy " + f + " " + t);
            }
        }
        for (int n : new int[] {0, 1, MOST - 1, MOST}) {
            Scene s = Scene.filled().size(3, n);
            s.answers("4 to itself of " + n, () -> s.x.copy(3, 3), n).look("4 to itself of " + n);
            Scene two = Scene.filled().size(3, n).size(6, MOST);
            two.answers("4 copy of " + n, () -> two.x.copy(3, 6), n).holds(6, two.slot(3));
            two.answers("4 the same of " + n, () -> two.x.same(3, 6) ? 1 : 0, 1).look("4 copy of " + n);
        }
        Scene s = Scene.filled().size(6, MOST);
        s.answers("4 a short one", () -> s.x.copy(0, 6), 33).holds(6, s.slot(0));
        s.answers("4 behind it", () -> s.x.resize(6, MOST), 33).holds(6, Arrays.copyOf(s.slot(0), MOST));
        s.look("4 nothing of the long slot is left");
        Scene two = Scene.filled();
        two.x.copy(1, 2);
        two.holds(2, two.slot(1)).alter(2, 0, 255).alter(1, 34, 1).look("4 each is changed alone");
    }

    private static void resizeOutOfRange() {
        for (int slot : WRONG_SLOTS) {
            for (int n : new int[] {-1, 0, 1, MOST, MOST + 1}) {
                Scene s = Scene.filled();
                s.illegal("5 slot " + slot + " n " + n, () -> s.x.resize(slot, n));
            }
        }
        for (int n : WRONG_COUNTS) {
            for (int slot = 0; slot < 8; slot++) {
                int t = slot;
                Scene s = Scene.filled();
                s.illegal("5 n " + n, () -> s.x.resize(t, n));
            }
        }
    }

    private static void resizeInRange() {
        for (int slot = 0; slot < 8; slot++) {
            int t = slot;
            int had = 33 + 2 * slot;
            for (int n : new int[] {0, 1, had - 1, had, had + 1, MOST - 1, MOST}) {
                Scene s = Scene.filled();
                s.answers("5 resize to " + n, () -> s.x.resize(t, n), had);
                s.holds(t, Arrays.copyOf(s.slot(t), n)).look("5 resize to " + n);
            }
        }
        Scene s = Scene.filled().size(0, MOST);
        s.answers("5 from the most to none", () -> s.x.resize(0, 0), MOST);
        s.answers("5 from none to the most", () -> s.x.resize(0, MOST), 0);
        s.answers("5 the most as it is", () -> s.x.resize(0, MOST), MOST);
        s.holds(0, new byte[MOST]).look("5 all are zeros");
        Scene zeros = new Scene().size(0, MOST);
        for (int i = 0; i < MOST; i += MOST / 100) {
            zeros.alter(0, i, 255);
        }
        zeros.x.resize(0, 1);
        zeros.x.resize(0, MOST);
        zeros.x.resize(1, MOST);
        zeros.x.alter(1, 0, 255);
        Check.due("5 what was cut comes back as zeros", () -> zeros.x.same(0, 1) ? 1 : 0, 1);
    }

    private static void alterOutOfRange() {
        for (int slot : WRONG_SLOTS) {
            for (int i : new int[] {-1, 0, MOST}) {
                for (int v : new int[] {0, 255, 256}) {
                    Scene s = Scene.filled();
                    s.illegal("6 slot " + slot + " i " + i + " v " + v, () -> s.x.alter(slot, i, v));
                }
            }
        }
        for (int v : WRONG_BYTES) {
            for (int i : new int[] {-1, 0, 32, 33, MOST}) {
                Scene s = Scene.filled();
                s.illegal("6 v " + v + " i " + i, () -> s.x.alter(0, i, v));
            }
            Scene empty = new Scene();
            empty.illegal("6 v of an empty slot " + v, () -> empty.x.alter(7, 0, v));
        }
    }

    private static void alterNoByte() {
        for (int slot = 0; slot < 8; slot++) {
            int t = slot;
            int had = 33 + 2 * slot;
            for (int i : new int[] {-1, had, had + 1, MOST - 1, MOST, Integer.MIN_VALUE, Integer.MAX_VALUE}) {
                Scene s = Scene.filled();
                s.outside("6 no byte " + i, () -> s.x.alter(t, i, 1));
            }
        }
        for (int i : new int[] {-1, MOST, Integer.MIN_VALUE, Integer.MAX_VALUE}) {
            Scene s = Scene.filled().size(5, MOST);
            s.outside("6 no byte of a full slot " + i, () -> s.x.alter(5, i, 0));
        }
        Scene cut = Scene.filled().size(5, 9);
        cut.outside("6 a byte that was cut", () -> cut.x.alter(5, 9, 1));
        for (int i : new int[] {-1, 0, 1, Integer.MAX_VALUE}) {
            Scene empty = Scene.filled().size(5, 0);
            empty.outside("6 no byte of an empty slot " + i, () -> empty.x.alter(5, i, 1));
        }
    }

    private static void alterInRange() {
        for (int v : new int[] {0, 1, 127, 128, 255}) {
            for (int i : new int[] {0, 1, 33, 34}) {
                Scene s = Scene.filled();
                int due = (s.slot(1)[i] & 255) ^ v;
                s.answers("6 alter " + i + " " + v, () -> s.x.alter(1, i, v), due);
                s.holds(1, Check.changed(s.slot(1), i, v)).look("6 alter " + i + " " + v);
            }
        }
        for (int i : new int[] {0, MOST - 2, MOST - 1}) {
            Scene s = Scene.filled().size(2, MOST);
            int due = (s.slot(2)[i] & 255) ^ 255;
            s.answers("6 alter of a full slot " + i, () -> s.x.alter(2, i, 255), due);
            s.holds(2, Check.changed(s.slot(2), i, 255)).look("6 alter of a full slot " + i);
        }
        Scene one = new Scene().put(0, new byte[] {0x5a});
        one.answers("6 the only byte", () -> one.x.alter(0, 0, 0xff), 0xa5);
        one.answers("6 twice is as before", () -> one.x.alter(0, 0, 0xff), 0x5a).look("6 the only byte");
    }

    private static void lengths() {
        for (int slot : WRONG_SLOTS) {
            Scene s = Scene.filled();
            s.illegal("7 slot " + slot, () -> s.x.length(slot));
        }
        for (int slot = 0; slot < 8; slot++) {
            int t = slot;
            for (int n : new int[] {0, 1, MOST - 1, MOST}) {
                Scene s = Scene.filled().size(t, n);
                s.answers("7 length " + n, () -> s.x.length(t), n).look("7 length " + n);
            }
        }
    }

    private static void wordNoByte() {
        for (int slot : WRONG_SLOTS) {
            for (int i : new int[] {-1, 0, MOST, Integer.MAX_VALUE}) {
                Scene s = Scene.filled();
                s.illegal("8 slot " + slot + " i " + i, () -> s.x.word(slot, i));
            }
        }
        int[] tooHigh = {MOST, MOST + 1, Integer.MAX_VALUE - 7, Integer.MAX_VALUE};
        int[] tooLow = {-1, -7, -8, Integer.MIN_VALUE};
        for (int n : new int[] {0, 1, 7, 8, 9, MOST}) {
            for (int j = 0; j < 4; j++) {
                int high = tooHigh[j];
                int low = tooLow[j];
                Scene above = Scene.filled().size(6, n);
                above.outside("8 i " + high + " of " + n, () -> above.x.word(6, high));
                Scene below = Scene.filled().size(6, n);
                below.outside("8 i " + low + " of " + n, () -> below.x.word(6, low));
            }
            Scene behind = Scene.filled().size(6, n);
            behind.outside("8 the place behind the last of " + n, () -> behind.x.word(6, n));
        }
    }

    private static void wordInRange() {
        byte[] all = {-1, -2, 3, 4, 5, 6, 7, 8, 9, 10, 11, 12, 13, 14, 15, -16};
        for (int n = 1; n <= 16; n++) {
            Scene s = new Scene().put(3, all).size(3, n);
            for (int i = 0; i < n; i++) {
                int at = i;
                long due = 0;
                for (int j = i; j < i + 8; j++) {
                    due = due * 256 + (j < n ? all[j] & 255 : 0);
                }
                s.answers("8 word " + i + " of " + n, () -> s.x.word(3, at), due);
            }
            s.look("8 words of " + n);
        }
        Scene full = Scene.filled().size(3, MOST).alter(3, MOST - 8, 0x80).alter(3, MOST - 9, 0x77);
        full.answers("8 the last eight", () -> full.x.word(3, MOST - 8), 0x80000000000000a5L);
        full.answers("8 eight before", () -> full.x.word(3, MOST - 9), 0x7780000000000000L);
        full.answers("8 the last seven", () -> full.x.word(3, MOST - 7), 0xa500L);
        full.answers("8 the last one", () -> full.x.word(3, MOST - 1), 0xa5L << 56);
        full.look("8 words of a full slot");
    }

    private static void sameOutOfRange() {
        for (int wrong : WRONG_SLOTS) {
            for (int right = 0; right < 8; right += 7) {
                int t = right;
                Scene slot = Scene.filled();
                slot.illegal("9 slot " + wrong, () -> slot.x.same(wrong, t) ? 1 : 0);
                Scene other = Scene.filled();
                other.illegal("9 other " + wrong, () -> other.x.same(t, wrong) ? 1 : 0);
            }
            Scene both = Scene.filled();
            both.illegal("9 both " + wrong, () -> both.x.same(wrong, wrong) ? 1 : 0);
        }
    }

    private static void sameInRange() {
        Scene all = Scene.filled();
        for (int slot = 0; slot < 8; slot++) {
            for (int other = 0; other < 8; other++) {
                int s = slot;
                int t = other;
                all.answers("9 same " + s + " " + t, () -> all.x.same(s, t) ? 1 : 0, s == t ? 1 : 0);
            }
        }
        all.look("9 same");
        for (int n : new int[] {1, 2, MOST - 1, MOST}) {
            Scene s = Scene.filled().size(0, n);
            s.x.copy(0, 7);
            s.holds(7, s.slot(0));
            s.answers("9 same of " + n, () -> s.x.same(0, 7) ? 1 : 0, 1);
            for (int i : new int[] {0, n / 2, n - 1}) {
                s.alter(7, i, 1);
                s.answers("9 other byte " + i + " of " + n, () -> s.x.same(0, 7) ? 1 : 0, 0);
                s.answers("9 other byte " + i + " of " + n, () -> s.x.same(7, 0) ? 1 : 0, 0);
                s.alter(7, i, 1);
            }
            s.size(7, n - 1).answers("9 one shorter than " + n, () -> s.x.same(0, 7) ? 1 : 0, 0);
            s.answers("9 one longer than " + (n - 1), () -> s.x.same(7, 0) ? 1 : 0, 0);
            s.look("9 same of " + n);
        }
        Scene zeros = new Scene();
        zeros.x.resize(1, 1);
        Check.due("9 none is not one zero", () -> zeros.x.same(0, 1) ? 1 : 0, 0);
        Check.due("9 one zero is not none", () -> zeros.x.same(1, 0) ? 1 : 0, 0);
    }
}
