/** The boundary cases of promises 1 to 6 and of the terms' first section, sentence by sentence. */
public final class BoundsRowsTest {
    private static final int LEAST = Integer.MIN_VALUE;
    private static final int MOST = Integer.MAX_VALUE;

    public static void main(String[] args) {
        newObject();
        fullRows();
        feeds();
        fullTape();
        keeps();
        fills();
        joins();
        cuts();
        xors();
        octets();
        compares();
        counts();
        Check.end();
    }

    private static String repeat(String s, int n) {
        return s.repeat(n);
    }

    /** "Empty rows, an empty tape, log and box; no hash is under way." */
    private static void newObject() {
        CryptHouse h = new CryptHouse();
        for (int row = 0; row < 24; row++) {
            Check.due("an empty row", h.size(row), 0);
            Check.due("no byte 0", Check.call(h, "octets", row, 0), "throws.NoSuchElementException");
        }
        for (int what = 0; what < 4; what++) {
            Check.due("nothing to count", h.count(what), 0);
        }
        for (int place = 0; place < 16; place++) {
            for (int what = 0; what < 6; what++) {
                Check.due("an empty place", h.look(place, what), -4);
            }
        }
        Check.due("no leaf", h.head(1, 0), -1);
        Check.due("no hash", h.more(0), -3);
        Check.due("no hash", h.done(0), -3);
        Check.due("the empty tape", h.keep(0), 0);
        Check.due("the trail", h.trail(0), 32);
        Check.due("0s at first", Check.text(h, 0), repeat("00", 32));
    }

    /** "There are ROWS 0 .. 23 of at most 8192 bytes each": all of them may be full at once. */
    private static void fullRows() {
        CryptHouse h = new CryptHouse();
        for (int row = 0; row < 24; row++) {
            Check.due("full", h.fill(8192, 100 + row, row), 8192);
        }
        for (int row = 0; row < 24; row++) {
            Check.due("full", Check.text(h, row), repeat(String.format("%02x", 100 + row), 8192));
            Check.due("one more", h.join(row, row, 0), -2);
        }
    }

    /** "The n lowest bytes of a, b, c (24 in all, those of a first, lowest first) come behind the tape". */
    private static void feeds() {
        String all = "0807060504030201" + "1817161514131211" + "2827262524232221";
        for (int n = 1; n <= 24; n++) {
            CryptHouse h = new CryptHouse();
            Check.due("feed " + n, h.feed(n, 0x0102030405060708L, 0x1112131415161718L, 0x2122232425262728L), n);
            Check.due("feed 1", h.feed(1, -2, -1, -1), n + 1);
            Check.due("the tape", h.count(0), n + 1);
            Check.due("keep", h.keep(23), n + 1);
            Check.due("kept", Check.text(h, 23), all.substring(0, 2 * n) + "fe");
        }
        Twin t = new Twin().told("IllegalArgumentException when n is not 1 .. 24");
        for (int n : new int[] {0, 25, -1, LEAST, MOST}) {
            t.thrown("feed", n, 1L, 2L, 3L);
        }
        t.end();
    }

    /** "a TAPE of at most 8192"; "IllegalStateException when it would have more than 8192". */
    private static void fullTape() {
        Twin t = new Twin();
        for (int i = 0; i < 340; i++) {
            t.both("feed", 24, (long) i, 2L, 3L);
        }
        t.both("feed", 23, -1L, -1L, -1L);
        t.told("IllegalStateException when it would have more than 8192");
        Check.due("the tape", t.seen.count(0), 8183);
        for (int n : new int[] {10, 11, 24}) {
            t.leaves("throws.IllegalStateException", "feed", n, 0L, 0L, 0L);
        }
        Check.due("to the end", t.both("feed", 9, 5L, 6L, 7L), "8192");
        for (int n : new int[] {1, 2, 24}) {
            t.leaves("throws.IllegalStateException", "feed", n, 0L, 0L, 0L);
        }
        t.told("the exceptions' order");
        for (int n : new int[] {0, 25, -1, LEAST, MOST}) {
            t.thrown("feed", n, 0L, 0L, 0L);
        }
        t.thrown("keep", 24);
        t.thrown("keep", -1);
        Check.due("a full tape is kept", t.both("keep", 11), "8192");
        Check.due("the tape is used up", t.seen.count(0), 0);
        Check.due("the last bytes", t.seen.octets(11, 8183), 5L);
        Check.due("the last byte", t.seen.octets(11, 8191), 6L);
        Check.due("again from the start", t.both("feed", 24, 0L, 0L, 0L), "24");
        t.end();
    }

    /** "The tape, which is used up, becomes a row." */
    private static void keeps() {
        CryptHouse h = new CryptHouse();
        for (int row : new int[] {0, 23}) {
            h.feed(1, 7, 0, 0);
            Check.due("keep", h.keep(row), 1);
            Check.due("kept", Check.text(h, row), "07");
            Check.due("used up", h.count(0), 0);
            Check.due("keep of nothing", h.keep(row), 0);
            Check.due("an empty row", h.size(row), 0);
        }
    }

    /** "A row becomes n bytes (0 .. 8192; else -1), each of them v's lowest byte." */
    private static void fills() {
        Twin t = new Twin().told("0 .. 8192; else -1");
        for (int n : new int[] {0, 1, 8191, 8192}) {
            t.gives(repeat("00", n), "fill", n, 0);
            t.gives(repeat("ff", n), "fill", n, -1);
        }
        for (int n : new int[] {-1, 8193, LEAST, MOST}) {
            t.leaves(-1, "fill", n, 7);
        }
        t.told("each of them v's lowest byte");
        t.gives("ff", "fill", 1, 255);
        t.gives("00", "fill", 1, 256);
        t.gives("00", "fill", 1, LEAST);
        t.gives("ff", "fill", 1, MOST);
        t.gives("80", "fill", 1, -128);
        t.gives("7f", "fill", 1, -129);
        t.end();
    }

    /** "-2 more than 8192 bytes would come". */
    private static void joins() {
        Twin t = new Twin().told("to becomes [x, y]");
        String half = repeat("ab", 4096);
        t.gives("", "join", "", "");
        t.gives("0102", "join", "", "0102");
        t.gives("0102", "join", "0102", "");
        t.gives(half + half, "join", half, half);
        t.gives(half + half, "join", half + half, "");
        t.gives(half + half, "join", "", half + half);
        t.gives("01" + repeat("02", 8191), "join", "01", repeat("02", 8191));
        t.told("-2 more than 8192 bytes would come");
        t.leaves(-2, "join", half + half, "01");
        t.leaves(-2, "join", "01", half + half);
        t.leaves(-2, "join", half, half + "01");
        t.leaves(-2, "join", half + half, half + half);
        t.end();
        CryptHouse h = new CryptHouse();
        h.fill(4096, 1, 5);
        Check.due("with itself", h.join(5, 5, 5), 8192);
        Check.due("with itself", h.join(5, 5, 5), -2);
        Check.due("left", h.size(5), 8192);
    }

    /** "n bytes of x from a place on (0 .. its size; -1 else, or when from there on there are not so many; n 0 and more)". */
    private static void cuts() {
        Twin t = new Twin().told("0 .. its size");
        t.gives("", "cut", "", 0, 0);
        t.gives("", "cut", "0102", 2, 0);
        t.gives("", "cut", "0102", 0, 0);
        t.gives("02", "cut", "0102", 1, 1);
        t.gives("0102", "cut", "0102", 0, 2);
        String full = repeat("01", 8191) + "02";
        t.gives(full, "cut", full, 0, 8192);
        t.gives("02", "cut", full, 8191, 1);
        t.gives("", "cut", full, 8192, 0);
        for (int from : new int[] {-1, 3, LEAST, MOST}) {
            t.leaves(-1, "cut", "0102", from, 0);
            t.leaves(-1, "cut", "0102", from, 1);
        }
        t.leaves(-1, "cut", "", 1, 0);
        t.leaves(-1, "cut", full, 8193, 0);
        t.told("when from there on there are not so many; n 0 and more");
        int[][] bad = {{0, 3}, {1, 2}, {2, 1}, {0, -1}, {1, -1}, {2, -1}, {0, LEAST}, {0, MOST}, {2, MOST}, {1, LEAST}};
        for (int[] b : bad) {
            t.leaves(-1, "cut", "0102", b[0], b[1]);
        }
        t.leaves(-1, "cut", "", 0, 1);
        t.leaves(-1, "cut", full, 1, 8192);
        t.leaves(-1, "cut", full, 0, 8193);
        t.end();
    }

    /** "to becomes x and y by exclusive or (-1: they have not one size)". */
    private static void xors() {
        Twin t = new Twin().told("-1: they have not one size");
        t.gives("", "xor", "", "");
        t.gives("f0", "xor", "ff", "0f");
        t.gives(repeat("f0", 8192), "xor", repeat("ff", 8192), repeat("0f", 8192));
        t.leaves(-1, "xor", "", "00");
        t.leaves(-1, "xor", "00", "");
        t.leaves(-1, "xor", "0000", "00");
        t.leaves(-1, "xor", repeat("00", 8191), repeat("00", 8192));
        t.end();
    }

    /** "Eight bytes of a row from k on, lowest first (0 behind its end). Throws NoSuchElementException when there is no byte k." */
    private static void octets() {
        Twin t = new Twin().told("when there is no byte k");
        CryptHouse h = new CryptHouse();
        for (int n : new int[] {1, 7, 8, 9, 8192}) {
            h.fill(n, 255, 23);
            for (int k : new int[] {0, Math.max(0, n - 9), Math.max(0, n - 8), Math.max(0, n - 7), n - 1}) {
                int left = Math.min(8, n - k);
                Check.due("octets " + n + " " + k, h.octets(23, k), left == 8 ? -1L : (1L << 8 * left) - 1);
            }
            for (int k : new int[] {n, n + 1, -1, LEAST, MOST}) {
                Check.due("octets " + n + " " + k, Check.call(h, "octets", 23, k), "throws.NoSuchElementException");
            }
        }
        t.leaves("throws.NoSuchElementException", "octets", 9, 0);
        t.told("IllegalArgumentException ahead of all");
        t.thrown("octets", 24, 0);
        t.thrown("octets", -1, -1);
        t.thrown("octets", 24, MOST);
        t.end();
    }

    /** "-1, 0, 1: the number x is below, is, is above y, whatever their sizes." */
    private static void compares() {
        Twin t = new Twin().told("whatever their sizes");
        String zeros = repeat("00", 8192);
        String most = repeat("ff", 8192);
        t.leaves(0, "compare", "", "");
        t.leaves(0, "compare", "", zeros);
        t.leaves(0, "compare", zeros, "");
        t.leaves(-1, "compare", zeros, "01");
        t.leaves(1, "compare", "01", zeros);
        t.leaves(0, "compare", repeat("00", 8191) + "01", "01");
        t.leaves(0, "compare", most, most);
        t.leaves(-1, "compare", repeat("ff", 8191) + "fe", most);
        t.leaves(1, "compare", most, repeat("ff", 8191) + "fe");
        t.leaves(1, "compare", most, repeat("ff", 8191));
        t.leaves(-1, "compare", "00" + repeat("ff", 8191), most);
        t.leaves(1, "compare", "0100", "00ff");
        t.leaves(-1, "compare", "7f", "80");
        t.leaves(1, "compare", "80", "7f");
        t.end();
    }

    /** "Throws IllegalArgumentException for another what." */
    private static void counts() {
        Twin t = new Twin().told("0 bytes of the tape, 1 whether a hash is under way, 2 leaves, 3 places with a key");
        int[] due = {0, 1, 3, 2};
        for (int what = 0; what < 4; what++) {
            t.leaves(due[what], "count", what);
        }
        for (int what : new int[] {-1, 4, LEAST, MOST}) {
            t.thrown("count", what);
        }
        t.end();
    }
}
