/** Promises 1 to 6: a new object, the tape, and plain work on rows. */
public final class RowsTest {
    public static void main(String[] args) {
        newObject();
        feedAndKeep();
        fillAndJoin();
        cutAndXor();
        sizeAndOctets();
        compare();
        Check.end();
    }

    private static void newObject() {
        CryptHouse h = new CryptHouse();
        for (int i = 0; i < 24; i++) {
            Check.due("a new row", h.size(i), 0);
        }
        for (int i = 0; i < 4; i++) {
            Check.due("a new count", h.count(i), 0);
        }
        for (int i = 0; i < 16; i++) {
            Check.due("a new place", h.look(i, 0), -4);
        }
        Check.due("no hash", h.more(0), -3);
        Check.due("no hash", h.done(0), -3);
    }

    private static void feedAndKeep() {
        CryptHouse h = new CryptHouse();
        Check.due("feed", h.feed(1, 0x1ffL, 0, 0), 1);
        Check.due("feed", h.feed(10, 0x0807060504030201L, 0x7f0a09L, 0), 11);
        Check.due("feed", h.feed(24, -1L, 0, 0x1817161514131211L), 35);
        for (int n : new int[] {0, 25, -1, Integer.MIN_VALUE, Integer.MAX_VALUE}) {
            Check.due("feed " + n, Check.call(h, "feed", n, 0L, 0L, 0L), "throws.IllegalArgumentException");
        }
        Check.due("the tape", h.count(0), 35);
        Check.due("keep", h.keep(5), 35);
        Check.due("kept", Check.text(h, 5), "ff0102030405060708090affffffffffffffff00000000000000001112131415161718");
        Check.due("the tape", h.count(0), 0);
        Check.due("keep", h.keep(5), 0);
        Check.due("kept", h.size(5), 0);
        for (int i = 0; i < 341; i++) {
            h.feed(24, 1, 2, 3);
        }
        Check.due("feed", h.feed(7, 0, 0, 0), 8191);
        Check.due("feed", Check.call(h, "feed", 2, 0L, 0L, 0L), "throws.IllegalStateException");
        Check.due("feed", Check.call(h, "feed", 0, 0L, 0L, 0L), "throws.IllegalArgumentException");
        Check.due("the tape", h.count(0), 8191);
        Check.due("feed", h.feed(1, 9, 0, 0), 8192);
        Check.due("feed", Check.call(h, "feed", 1, 0L, 0L, 0L), "throws.IllegalStateException");
        Check.due("keep", h.keep(23), 8192);
        Check.due("kept", h.octets(23, 8191), 9L);
    }

    private static void fillAndJoin() {
        CryptHouse h = new CryptHouse();
        Check.due("fill", h.fill(3, 0x1ab, 0), 3);
        Check.due("filled", Check.text(h, 0), "ababab");
        Check.due("fill", h.fill(2, -1, 1), 2);
        Check.due("filled", Check.text(h, 1), "ffff");
        Check.due("fill", h.fill(-1, 0, 1), -1);
        Check.due("fill", h.fill(8193, 0, 1), -1);
        Check.due("filled", Check.text(h, 1), "ffff");
        Check.due("join", h.join(0, 1, 2), 5);
        Check.due("joined", Check.text(h, 2), "abababffff");
        Check.due("join", h.join(1, 1, 1), 4);
        Check.due("joined", Check.text(h, 1), "ffffffff");
        Check.due("join", h.join(0, 1, 1), 7);
        Check.due("joined", Check.text(h, 1), "abababffffffff");
        Check.due("fill", h.fill(8192, 7, 3), 8192);
        Check.due("fill", h.fill(1, 7, 4), 1);
        Check.due("join", h.join(3, 4, 4), -2);
        Check.due("left", h.size(4), 1);
        Check.due("join", h.join(3, 5, 4), 8192);
        Check.due("fill", h.fill(0, 7, 4), 0);
        Check.due("filled", h.size(4), 0);
    }

    private static void cutAndXor() {
        CryptHouse h = new CryptHouse();
        Check.row(h, 0, "0011223344");
        Check.gives(h, "1122", "cut", "0011223344", 1, 2);
        Check.gives(h, "", "cut", "0011223344", 5, 0);
        Check.gives(h, "0011223344", "cut", "0011223344", 0, 5);
        for (int[] bad : new int[][] {{-1, 0}, {6, 0}, {0, 6}, {4, 2}, {0, -1}, {5, 1}, {2, Integer.MAX_VALUE},
            {Integer.MAX_VALUE, Integer.MAX_VALUE}, {Integer.MIN_VALUE, 1}}) {
            Check.refused(h, "-1", "cut", "0011223344", bad[0], bad[1]);
        }
        Check.due("cut", h.cut(0, 2, 3, 0), 3);
        Check.due("cut", Check.text(h, 0), "223344");
        Check.gives(h, "ff00f0", "xor", "0f0f0f", "f00fff");
        Check.gives(h, "", "xor", "", "");
        Check.refused(h, "-1", "xor", "00", "");
        Check.refused(h, "-1", "xor", "00", "0000");
        Check.row(h, 3, "a5a5");
        Check.due("xor", h.xor(3, 3, 3), 2);
        Check.due("xor", Check.text(h, 3), "0000");
    }

    private static void sizeAndOctets() {
        CryptHouse h = new CryptHouse();
        Check.row(h, 7, "0102030405060708090a");
        Check.due("size", h.size(7), 10);
        Check.due("octets", h.octets(7, 0), 0x0807060504030201L);
        Check.due("octets", h.octets(7, 2), 0x0a09080706050403L);
        Check.due("octets", h.octets(7, 3), 0x0a090807060504L);
        Check.due("octets", h.octets(7, 9), 10L);
        for (int k : new int[] {10, -1, Integer.MAX_VALUE, Integer.MIN_VALUE}) {
            Check.due("octets " + k, Check.call(h, "octets", 7, k), "throws.NoSuchElementException");
        }
        Check.due("octets", Check.call(h, "octets", 8, 0), "throws.NoSuchElementException");
        Check.due("octets", Check.call(h, "octets", 24, 10), "throws.IllegalArgumentException");
        Check.due("octets", Check.call(h, "octets", -1, 0), "throws.IllegalArgumentException");
    }

    private static void compare() {
        CryptHouse h = new CryptHouse();
        String[] numbers = {"", "01", "02", "ff", "0100", "0101", "ff00", "010000"};
        for (int i = 0; i < numbers.length; i++) {
            for (int k = 0; k < numbers.length; k++) {
                Check.row(h, 0, numbers[i]);
                Check.row(h, 1, "0000".substring(0, 2 * (i % 3)) + numbers[k]);
                Check.due("compare " + i + " " + k, h.compare(0, 1), Integer.compare(i, k));
            }
        }
        Check.due("compare", h.compare(1, 1), 0);
    }
}
