/** Promises 1 to 9: the slots and the tape. */
public final class SlotsTest {
    private static final int[] WRONG_SLOTS = {-1, 8, Integer.MIN_VALUE, Integer.MAX_VALUE};
    private static final int MOST = 65536;

    public static void main(String[] args) {
        newObject();
        feed();
        fullTape();
        end();
        copy();
        resize();
        alter();
        length();
        word();
        same();
        Check.done();
    }

    private static void newObject() {
        HashTreeSigner x = new HashTreeSigner();
        for (int slot = 0; slot < 8; slot++) {
            int s = slot;
            Check.due("1 length", () -> x.length(s), 0);
            Check.outside("1 word", () -> x.word(s, 0));
        }
        Check.outside("1 tape", () -> x.end(0, 1));
        Check.due("1 first feed", () -> x.feed(0, 0, 0, 0, 0), 20);
        HashTreeSigner other = new HashTreeSigner();
        Check.due("1 another object is empty, too", () -> other.feed(0, 0, 0, 0, 0), 20);
    }

    private static void feed() {
        HashTreeSigner x = new HashTreeSigner();
        Check.due("2 feed", () -> x.feed(0x01020304, 0x80ff7f00, -1, Integer.MIN_VALUE, 5), 20);
        Check.due("2 feed", () -> x.feed(Integer.MAX_VALUE, 0, 1, 2, 0xdeadbeef), 40);
        Check.due("2 end", () -> x.end(3, 40), 40);
        long[] want = {0x0102030480ff7f00L, 0xffffffff80000000L, 0x000000057fffffffL, 1L, 0x2deadbeefL};
        for (int j = 0; j < 5; j++) {
            int i = 8 * j;
            Check.due("2 word " + i, () -> x.word(3, i), want[j]);
        }
    }

    /** This takes more than 512 calls, but no call may fail by itself even so. */
    private static void fullTape() {
        HashTreeSigner x = new HashTreeSigner();
        for (int j = 1; j <= MOST / 20; j++) {
            int fed = 20 * j;
            Check.due("2 feed " + j, () -> x.feed(fed, 0, 0, 0, -fed), fed);
        }
        Check.outside("2 feed beyond", () -> x.feed(1, 2, 3, 4, 5));
        Check.outside("3 the tape is as it was", () -> x.end(0, MOST / 20 * 20 + 1));
        Check.due("3 end", () -> x.end(0, MOST / 20 * 20), MOST / 20 * 20);
        Check.due("3 last bytes", () -> x.word(0, MOST / 20 * 20 - 8), 0xffffffffL & -(MOST / 20 * 20));
        Check.due("3 the tape is empty", () -> x.feed(1, 2, 3, 4, 5), 20);
    }

    private static void end() {
        HashTreeSigner x = new HashTreeSigner();
        x.feed(0x01020304, 0x05060708, 9, 10, 11);
        for (int slot : WRONG_SLOTS) {
            Check.illegal("3 slot", () -> x.end(slot, 1));
        }
        Check.illegal("3 n below", () -> x.end(0, -1));
        Check.illegal("3 n above", () -> x.end(0, MOST + 1));
        Check.illegal("3 slot before n", () -> x.end(8, 21));
        Check.outside("3 n at its most", () -> x.end(0, MOST));
        Check.outside("3 one too many", () -> x.end(0, 21));
        Check.due("3 nothing changed", () -> x.length(0), 0);
        Check.due("3 a part", () -> x.end(0, 5), 5);
        Check.holds("3 a part", x, 0, new byte[] {1, 2, 3, 4, 5});
        Check.outside("3 the rest is gone", () -> x.end(1, 1));
        x.feed(1, 2, 3, 4, 5);
        Check.due("3 none of some", () -> x.end(0, 0), 0);
        Check.due("3 none", () -> x.length(0), 0);
        Check.due("3 the tape is empty", () -> x.feed(-1, 2, 3, 4, 5), 20);
        Check.due("3 the last slot", () -> x.end(7, 20), 20);
        Check.due("3 the last slot", () -> x.word(7, 0), 0xffffffff00000002L);
    }

    private static void copy() {
        HashTreeSigner x = new HashTreeSigner();
        Check.put(x, 2, Check.bytes(50, 3, 1));
        Check.put(x, 5, Check.bytes(90, 5, 2));
        for (int slot : WRONG_SLOTS) {
            Check.illegal("4 from", () -> x.copy(slot, 0));
            Check.illegal("4 to", () -> x.copy(0, slot));
        }
        Check.due("4 copy", () -> x.copy(2, 5), 50);
        Check.holds("4 to", x, 5, Check.bytes(50, 3, 1));
        Check.holds("4 from", x, 2, Check.bytes(50, 3, 1));
        Check.due("4 to itself", () -> x.copy(2, 2), 50);
        Check.holds("4 itself", x, 2, Check.bytes(50, 3, 1));
        x.alter(5, 0, 255);
        Check.holds("4 they are two", x, 2, Check.bytes(50, 3, 1));
        Check.due("4 an empty one", () -> x.copy(0, 5), 0);
        Check.due("4 an empty one", () -> x.length(5), 0);
    }

    private static void resize() {
        HashTreeSigner x = new HashTreeSigner();
        Check.put(x, 6, new byte[] {1, 2, 3, 4, 5, 6, 7, 8, 9});
        for (int slot : WRONG_SLOTS) {
            Check.illegal("5 slot", () -> x.resize(slot, 0));
        }
        Check.illegal("5 n below", () -> x.resize(6, -1));
        Check.illegal("5 n above", () -> x.resize(6, MOST + 1));
        Check.holds("5 nothing changed", x, 6, new byte[] {1, 2, 3, 4, 5, 6, 7, 8, 9});
        Check.due("5 cut", () -> x.resize(6, 3), 9);
        Check.holds("5 cut", x, 6, new byte[] {1, 2, 3});
        Check.due("5 longer", () -> x.resize(6, 6), 3);
        Check.holds("5 what was cut is zero", x, 6, new byte[] {1, 2, 3, 0, 0, 0});
        Check.due("5 as it is", () -> x.resize(6, 6), 6);
        Check.due("5 longest", () -> x.resize(6, MOST), 6);
        Check.due("5 the last byte", () -> x.alter(6, MOST - 1, 7), 7);
        Check.due("5 its word", () -> x.word(6, MOST - 1), 7L << 56);
        Check.due("5 none", () -> x.resize(6, 0), MOST);
        Check.due("5 longest again", () -> x.resize(6, MOST), 0);
        Check.due("5 all is zero", () -> x.word(6, 0) | x.word(6, MOST - 8), 0);
    }

    private static void alter() {
        HashTreeSigner x = new HashTreeSigner();
        Check.put(x, 4, new byte[] {0, 15, -128});
        for (int slot : WRONG_SLOTS) {
            Check.illegal("6 slot", () -> x.alter(slot, 0, 0));
        }
        Check.illegal("6 v below", () -> x.alter(4, 0, -1));
        Check.illegal("6 v above", () -> x.alter(4, 0, 256));
        Check.illegal("6 v before i", () -> x.alter(4, 3, 256));
        Check.outside("6 i below", () -> x.alter(4, -1, 1));
        Check.outside("6 i lowest", () -> x.alter(4, Integer.MIN_VALUE, 1));
        Check.outside("6 i above", () -> x.alter(4, 3, 1));
        Check.outside("6 i highest", () -> x.alter(4, Integer.MAX_VALUE, 1));
        Check.outside("6 an empty slot", () -> x.alter(0, 0, 1));
        Check.holds("6 nothing changed", x, 4, new byte[] {0, 15, -128});
        Check.due("6 alter", () -> x.alter(4, 1, 0x3c), 0x33);
        Check.due("6 alter", () -> x.alter(4, 2, 255), 0x7f);
        Check.due("6 alter", () -> x.alter(4, 0, 255), 255);
        Check.due("6 by nothing", () -> x.alter(4, 0, 0), 255);
        Check.holds("6 altered", x, 4, new byte[] {-1, 0x33, 0x7f});
    }

    private static void length() {
        HashTreeSigner x = new HashTreeSigner();
        for (int slot : WRONG_SLOTS) {
            Check.illegal("7 slot", () -> x.length(slot));
        }
        for (int slot = 0; slot < 8; slot++) {
            int s = slot;
            x.resize(s, 100 * s + 1);
        }
        for (int slot = 0; slot < 8; slot++) {
            int s = slot;
            Check.due("7 length", () -> x.length(s), 100 * s + 1);
        }
    }

    private static void word() {
        HashTreeSigner x = new HashTreeSigner();
        Check.put(x, 1, new byte[] {-1, 2, 3, 4, 5, 6, 7, -8, 9, 10});
        for (int slot : WRONG_SLOTS) {
            Check.illegal("8 slot", () -> x.word(slot, 0));
        }
        Check.due("8 word", () -> x.word(1, 0), 0xff020304050607f8L);
        Check.due("8 word", () -> x.word(1, 2), 0x03040506_07f8090aL);
        Check.due("8 zeros behind", () -> x.word(1, 3), 0x04050607_f8090a00L);
        Check.due("8 zeros behind", () -> x.word(1, 9), 0x0a000000_00000000L);
        Check.outside("8 the end", () -> x.word(1, 10));
        Check.outside("8 below", () -> x.word(1, -1));
        Check.outside("8 lowest", () -> x.word(1, Integer.MIN_VALUE));
        Check.outside("8 highest", () -> x.word(1, Integer.MAX_VALUE));
        x.resize(1, 4);
        Check.due("8 what was cut is not seen", () -> x.word(1, 0), 0xff020304_00000000L);
    }

    private static void same() {
        HashTreeSigner x = new HashTreeSigner();
        for (int slot : WRONG_SLOTS) {
            Check.illegal("9 slot", () -> x.same(slot, 0) ? 1 : 0);
            Check.illegal("9 other", () -> x.same(0, slot) ? 1 : 0);
        }
        Check.due("9 two empty ones", () -> x.same(0, 7) ? 1 : 0, 1);
        Check.put(x, 0, Check.bytes(30, 1, 0));
        Check.put(x, 7, Check.bytes(31, 1, 0));
        Check.due("9 itself", () -> x.same(0, 0) ? 1 : 0, 1);
        Check.due("9 longer", () -> x.same(0, 7) ? 1 : 0, 0);
        Check.due("9 shorter", () -> x.same(7, 0) ? 1 : 0, 0);
        x.resize(7, 30);
        Check.due("9 what was cut does not count", () -> x.same(0, 7) ? 1 : 0, 1);
        x.alter(7, 29, 1);
        Check.due("9 the last byte", () -> x.same(0, 7) ? 1 : 0, 0);
        x.alter(7, 29, 1);
        x.alter(7, 0, 128);
        Check.due("9 the first byte", () -> x.same(7, 0) ? 1 : 0, 0);
    }
}
