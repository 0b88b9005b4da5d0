import java.util.ArrayList;
import java.util.List;
import java.util.Random;

/** The boundary cases of promises 29 to 32: the log full and empty, paths and proofs of trees of all sizes. */
public final class BoundsLogTest {
    private static final int LEAST = Integer.MIN_VALUE;
    private static final int MOST = Integer.MAX_VALUE;
    private static final byte[] LEAF = {0};
    private static final byte[] NODE = {1};
    private static final Random RANDOM = new Random(91);
    private static final Twin T = new Twin();

    public static void main(String[] args) {
        emptyLog();
        leafRows();
        fullLog();
        ranges();
        widePaths();
        wideGrowths();
        checkedSizes();
        T.end();
        Check.end();
    }

    private static byte[] some(int n) {
        byte[] b = new byte[n];
        RANDOM.nextBytes(b);
        return b;
    }

    private static byte[] node(byte[] a, byte[] b) {
        return Check.sha256(NODE, a, b);
    }

    private static int split(long n) {
        long k = 1;
        while (2 * k < n) {
            k *= 2;
        }
        return (int) k;
    }

    /** "HEAD of the first n; -1 when there are not so many": of an empty log there is one for 0. */
    private static void emptyLog() {
        CryptHouse h = new CryptHouse();
        Check.gives(h, Check.hex(Check.sha256()), "head", 0);
        for (int n : new int[] {1, -1, 2, 1024, LEAST, MOST}) {
            Check.refused(h, "-1", "head", n);
        }
        for (int i : new int[] {0, -1, 1, LEAST, MOST}) {
            for (int n : new int[] {0, 1, -1, LEAST, MOST}) {
                Check.refused(h, "-1", "path", i, n);
                Check.refused(h, "-1", "growth", i, n);
            }
        }
        Check.due("leaves", h.count(2), 0);
    }

    /** "A row becomes a leaf of the log: its number from 0 on": an empty row, a full one; what the row holds later does not count. */
    private static void leafRows() {
        CryptHouse h = new CryptHouse();
        List<byte[]> leaves = new ArrayList<>();
        for (int n : new int[] {0, 1, 54, 55, 56, 63, 64, 8191, 8192, 0}) {
            byte[] x = some(n);
            Check.row(h, 23, x);
            Check.due("its number", h.leaf(23), leaves.size());
            h.fill(n, 1, 23);
            leaves.add(Check.sha256(LEAF, x));
            Check.due("leaves", h.count(2), leaves.size());
            Check.gives(h, Check.hex(head(leaves)), "head", leaves.size());
            Check.due("a leaf alone", Check.run(h, "checkPath", 0, 1, x, "", Check.sha256(LEAF, x)), "1");
        }
    }

    private static byte[] head(List<byte[]> hashes) {
        int n = hashes.size();
        if (n == 0) {
            return Check.sha256();
        }
        return n == 1 ? hashes.get(0) : node(head(hashes.subList(0, split(n))), head(hashes.subList(split(n), n)));
    }

    /** "their hashes are kept, 1024 at most"; "-2 when there are 1024". */
    private static void fullLog() {
        Twin t = new Twin();
        List<byte[]> hashes = new ArrayList<>();
        for (int i = 0; i < 3; i++) {
            byte[] x = new byte[i];
            java.util.Arrays.fill(x, (byte) 7);
            hashes.add(Check.sha256(LEAF, x));
        }
        for (int i = 3; i < 1024; i++) {
            byte[] x = {(byte) i, (byte) (i >> 8)};
            hashes.add(Check.sha256(LEAF, x));
            t.answers(i, "leaf", x);
        }
        t.told("-2 when there are 1024");
        t.leaves(-2, "leaf", "");
        t.leaves(-2, "leaf", "0102");
        t.leaves(-2, "leaf", "00".repeat(8192));
        t.thrown("leaf", 24);
        t.thrown("leaf", -1);
        t.told("the first n");
        for (int n : new int[] {1, 2, 511, 512, 513, 1022, 1023, 1024}) {
            t.gives(Check.hex(head(hashes.subList(0, n))), "head", n);
            for (int i : new int[] {0, 1, n / 2, n - 2, n - 1}) {
                if (i >= 0 && i < n) {
                    String path = t.made(path(i, hashes.subList(0, n)).length() / 2, "path", i, n);
                    Check.due("path", path, path(i, hashes.subList(0, n)));
                }
            }
            for (int m : new int[] {1, n / 2, n - 1, n}) {
                if (m >= 1) {
                    t.gives(proof(m, hashes.subList(0, n), true), "growth", m, n);
                }
            }
        }
        t.told("-1 when there are not so many");
        for (int n : new int[] {1025, 2048, MOST, -1, LEAST}) {
            t.leaves(-1, "head", n);
            t.leaves(-1, "path", 0, n);
            t.leaves(-1, "growth", 1, n);
        }
        t.leaves(-1, "path", 1024, 1024);
        t.leaves(-1, "path", 1024, 1025);
        t.leaves(-1, "growth", 1024, 1025);
        t.leaves(-1, "growth", 1025, 1025);
        t.end();
    }

    private static String path(int i, List<byte[]> hashes) {
        int n = hashes.size();
        if (n == 1) {
            return "";
        }
        int k = split(n);
        return i < k ? path(i, hashes.subList(0, k)) + Check.hex(head(hashes.subList(k, n)))
            : path(i - k, hashes.subList(k, n)) + Check.hex(head(hashes.subList(0, k)));
    }

    private static String proof(int m, List<byte[]> hashes, boolean whole) {
        int n = hashes.size();
        if (m == n) {
            return whole ? "" : Check.hex(head(hashes));
        }
        int k = split(n);
        return m <= k ? proof(m, hashes.subList(0, k), whole) + Check.hex(head(hashes.subList(k, n)))
            : proof(m - k, hashes.subList(k, n), false) + Check.hex(head(hashes.subList(0, k)));
    }

    /** "the PATH of leaf i in the first n (0 .. n - 1)"; "1 <= m <= n": of all small trees, all i and m about the ends. */
    private static void ranges() {
        CryptHouse h = new CryptHouse();
        List<byte[]> hashes = new ArrayList<>();
        for (int n = 0; n <= 40; n++) {
            for (int i = -2; i <= n + 2; i++) {
                for (int of = Math.max(0, n - 1); of <= n + 1; of++) {
                    if (i >= 0 && i < of && of <= n) {
                        Check.gives(h, path(i, hashes.subList(0, of)), "path", i, of);
                    } else {
                        Check.refused(h, "-1", "path", i, of);
                    }
                    if (i >= 1 && i <= of && of <= n) {
                        Check.gives(h, proof(i, hashes.subList(0, of), true), "growth", i, of);
                    } else {
                        Check.refused(h, "-1", "growth", i, of);
                    }
                }
            }
            byte[] x = some(n);
            hashes.add(Check.sha256(LEAF, x));
            Check.run(h, "leaf", x);
        }
        for (int bad : new int[] {LEAST, -1, MOST}) {
            Check.refused(h, "-1", "path", bad, 30);
            Check.refused(h, "-1", "path", 3, bad);
            Check.refused(h, "-1", "growth", bad, 30);
            Check.refused(h, "-1", "growth", 3, bad);
            Check.refused(h, "-1", "head", bad);
        }
    }

    /** The head that a leaf has in a tree of n leaves with this path, by RFC 6962's recursion. */
    private static byte[] headBy(long i, long n, byte[] leaf, List<byte[]> path, int used) {
        if (n == 1) {
            return leaf;
        }
        int k = split(n);
        byte[] other = path.get(used - 1);
        return i < k ? node(headBy(i, k, leaf, path, used - 1), other) : node(other, headBy(i - k, n - k, leaf, path, used - 1));
    }

    private static int depth(long i, long n) {
        if (n == 1) {
            return 0;
        }
        int k = split(n);
        return 1 + (i < k ? depth(i, k) : depth(i - k, n - k));
    }

    /** "Whether x is leaf i of the n leaves (whatever the log has) with this head, by a path: 1, 0 (also i not 0 .. n - 1)." */
    private static void widePaths() {
        T.told("whatever the log has");
        int[] sizes = {1, 2, 3, 5, 7, 8, 9, 1023, 1024, 1025, 1 << 30, (1 << 30) - 1, (1 << 30) + 1, MOST - 1, MOST};
        for (int n : sizes) {
            for (int i : new int[] {0, 1, n / 3, n / 2, n - 2, n - 1}) {
                if (i < 0 || i >= n) {
                    continue;
                }
                byte[] x = some(10);
                List<byte[]> path = new ArrayList<>();
                StringBuilder text = new StringBuilder();
                for (int d = depth(i, n); d > 0; d--) {
                    path.add(some(32));
                    text.append(Check.hex(path.get(path.size() - 1)));
                }
                byte[] head = headBy(i, n, Check.sha256(LEAF, x), path, path.size());
                T.leaves(1, "checkPath", i, n, x, text.toString(), head);
                paths(i, n, x, text.toString(), Check.hex(head));
            }
            T.told("also i not 0 .. n - 1");
            byte[] alone = Check.sha256(LEAF, some(0));
            for (int i : new int[] {-1, n, LEAST, MOST, -n}) {
                if (i < 0 || i >= n) {
                    T.leaves(0, "checkPath", i, n, "", "", alone);
                }
            }
            T.told("whatever the log has");
        }
        byte[] alone = Check.sha256(LEAF);
        T.leaves(1, "checkPath", 0, 1, "", "", alone);
        for (int n : new int[] {0, -1, LEAST, 2, MOST}) {
            T.leaves(0, "checkPath", 0, n, "", "", alone);
            T.leaves(0, "checkPath", -1, n, "", "", alone);
            T.leaves(0, "checkPath", n, n, "", "", alone);
        }
    }

    private static void paths(int i, int n, byte[] x, String path, String head) {
        T.leaves(0, "checkPath", i, n, Check.join(x, LEAF), path, head);
        for (int bit = 0; bit < 256; bit += 5) {
            byte[] other = Check.bytes(head);
            other[bit / 8] ^= 1 << bit % 8;
            T.leaves(0, "checkPath", i, n, x, path, other);
        }
        byte[] last = Check.bytes(head);
        last[31] ^= 1;
        T.leaves(0, "checkPath", i, n, x, path, last);
        for (int at = 0; at < path.length(); at += 62) {
            byte[] other = Check.bytes(path);
            other[at / 2] ^= 2;
            T.leaves(0, "checkPath", i, n, x, other, head);
        }
        T.leaves(0, "checkPath", i, n, x, path + head, head);
        T.leaves(0, "checkPath", i, n, x, head + path, head);
        T.leaves(0, "checkPath", i, n, x, path + "00", head);
        if (!path.isEmpty()) {
            T.leaves(0, "checkPath", i, n, x, path.substring(64), head);
            T.leaves(0, "checkPath", i, n, x, path.substring(0, path.length() - 64), head);
            T.leaves(0, "checkPath", i, n, x, path.substring(0, path.length() - 2), head);
            T.leaves(0, "checkPath", i, n, x, "", head);
        }
        if ((i ^ 1) < n && i != (i ^ 1)) {
            T.leaves(0, "checkPath", i ^ 1, n, x, path, head);
        }
    }

    /** First head, second head and proof of a tree of which only the proof's nodes are known. */
    private static byte[][] grown(long m, long n, boolean whole, List<byte[]> proof) {
        if (m == n) {
            byte[] own = some(32);
            if (!whole) {
                proof.add(own);
            }
            return new byte[][] {own, own};
        }
        int k = split(n);
        byte[][] below = m <= k ? grown(m, k, whole, proof) : grown(m - k, n - k, false, proof);
        byte[] other = some(32);
        proof.add(other);
        return m <= k ? new byte[][] {below[0], node(below[1], other)}
            : new byte[][] {node(other, below[0]), node(other, below[1])};
    }

    /** "Whether m leaves with the first head are the beginning of n with the second, by a proof: 1, 0 (also not 1 <= m <= n)." */
    private static void wideGrowths() {
        T.told("by a proof: 1, 0");
        for (int n = 1; n <= 34; n++) {
            for (int m = 1; m <= n; m++) {
                growths(m, n);
            }
        }
        int[] sizes = {255, 256, 257, 1023, 1024, 1025, 1 << 30, (1 << 30) - 1, (1 << 30) + 1, MOST - 1, MOST};
        for (int n : sizes) {
            for (int m : new int[] {1, 2, 3, n / 3, n / 2, n / 2 + 1, n - 1, n}) {
                growths(m, n);
            }
            if (n > 1 << 29) {
                growths(1 << 29, n);
                growths((1 << 29) + 1, n);
                growths((1 << 29) - 1, n);
            }
        }
        T.told("also not 1 <= m <= n");
        String same = Check.hex(some(32));
        T.leaves(1, "checkGrowth", 1, 1, same, same, "");
        T.leaves(1, "checkGrowth", MOST, MOST, same, same, "");
        int[][] bad = {{0, 0}, {0, 1}, {-1, -1}, {-1, 1}, {2, 1}, {LEAST, LEAST}, {LEAST, MOST}, {MOST, MOST - 1}, {1, 0}, {1, -1}, {0, MOST}};
        for (int[] b : bad) {
            T.leaves(0, "checkGrowth", b[0], b[1], same, same, "");
            T.leaves(0, "checkGrowth", b[0], b[1], same, same, same);
        }
    }

    private static void growths(int m, int n) {
        List<byte[]> nodes = new ArrayList<>();
        byte[][] heads = grown(m, n, true, nodes);
        StringBuilder text = new StringBuilder();
        for (byte[] b : nodes) {
            text.append(Check.hex(b));
        }
        String proof = text.toString();
        String first = Check.hex(heads[0]);
        String second = Check.hex(heads[1]);
        T.leaves(1, "checkGrowth", m, n, first, second, proof);
        for (int at : new int[] {0, 13, 31}) {
            byte[] other = heads[0].clone();
            other[at] ^= 1;
            T.leaves(0, "checkGrowth", m, n, other, second, proof);
            other = heads[1].clone();
            other[at] ^= 128;
            T.leaves(0, "checkGrowth", m, n, first, other, proof);
        }
        for (int at = 0; at < proof.length(); at += 62) {
            byte[] other = Check.bytes(proof);
            other[at / 2] ^= 4;
            T.leaves(0, "checkGrowth", m, n, first, second, other);
        }
        T.leaves(0, "checkGrowth", m, n, first, second, proof + first);
        T.leaves(0, "checkGrowth", m, n, first, second, first + proof);
        T.leaves(0, "checkGrowth", m, n, first, second, proof + "00");
        if (!proof.isEmpty()) {
            T.leaves(0, "checkGrowth", m, n, first, second, "");
            T.leaves(0, "checkGrowth", m, n, first, second, proof.substring(64));
            T.leaves(0, "checkGrowth", m, n, first, second, proof.substring(0, proof.length() - 64));
            T.leaves(0, "checkGrowth", m, m, first, second, proof);
        }
    }

    /** Rows of 32 bytes: heads of other sizes do not fit. */
    private static void checkedSizes() {
        T.told("rows of 32 bytes one behind the other");
        String same = Check.hex(some(32));
        String alone = Check.hex(Check.sha256(LEAF));
        for (String bad : new String[] {"", alone + "00", alone.substring(2), alone + alone, "00" + alone}) {
            T.leaves(0, "checkPath", 0, 1, "", "", bad);
        }
        for (String bad : new String[] {"", same + "00", same.substring(2), same + same}) {
            T.leaves(0, "checkGrowth", 5, 5, bad, same, "");
            T.leaves(0, "checkGrowth", 5, 5, same, bad, "");
            T.leaves(0, "checkGrowth", 5, 5, bad, bad, "");
            T.leaves(0, "checkGrowth", 5, 6, bad, bad, same + same);
        }
        T.leaves(0, "checkGrowth", 5, 5, same, same, "00");
        T.leaves(0, "checkGrowth", 5, 5, same, same, same);
    }
}
