import java.util.ArrayList;
import java.util.List;
import java.util.Random;

/** Promises 29 to 32: the log of leaves, against RFC 6962's own recursions. */
public final class LogTest {
    private static final Random RANDOM = new Random(8);
    private static final byte[] LEAF = {0};
    private static final byte[] NODE = {1};

    public static void main(String[] args) {
        small();
        full();
        wide();
        Check.end();
    }

    private static int split(int n) {
        int k = 1;
        while (2 * k < n) {
            k *= 2;
        }
        return k;
    }

    private static byte[] head(List<byte[]> leaves) {
        int n = leaves.size();
        if (n == 0) {
            return Check.sha256();
        }
        if (n == 1) {
            return Check.sha256(LEAF, leaves.get(0));
        }
        int k = split(n);
        return Check.sha256(NODE, head(leaves.subList(0, k)), head(leaves.subList(k, n)));
    }

    private static String path(int i, List<byte[]> leaves) {
        int n = leaves.size();
        if (n == 1) {
            return "";
        }
        int k = split(n);
        return i < k ? path(i, leaves.subList(0, k)) + Check.hex(head(leaves.subList(k, n)))
            : path(i - k, leaves.subList(k, n)) + Check.hex(head(leaves.subList(0, k)));
    }

    private static String proof(int m, List<byte[]> leaves, boolean whole) {
        int n = leaves.size();
        if (m == n) {
            return whole ? "" : Check.hex(head(leaves));
        }
        int k = split(n);
        return m <= k ? proof(m, leaves.subList(0, k), whole) + Check.hex(head(leaves.subList(k, n)))
            : proof(m - k, leaves.subList(k, n), false) + Check.hex(head(leaves.subList(0, k)));
    }

    private static void small() {
        CryptHouse h = new CryptHouse();
        List<byte[]> leaves = new ArrayList<>();
        for (int n = 0; n <= 21; n++) {
            Check.due("leaves", h.count(2), n);
            String head = Check.hex(head(leaves));
            Check.gives(h, head, "head", n);
            Check.refused(h, "-1", "head", n + 1);
            for (int i = 0; i < n; i++) {
                String path = path(i, leaves);
                Check.gives(h, path, "path", i, n);
                checkPaths(h, i, n, leaves.get(i), path, head);
            }
            for (int m = 1; m <= n; m++) {
                String proof = proof(m, leaves, true);
                Check.gives(h, proof, "growth", m, n);
                checkGrowths(h, m, n, Check.hex(head(leaves.subList(0, m))), head, proof);
            }
            int[][] none = {{n, n}, {-1, n}, {0, n + 1}, {n, n + 1}, {0, 0}, {0, -1}, {Integer.MAX_VALUE, n}, {0, Integer.MAX_VALUE}};
            for (int[] b : none) {
                Check.refused(h, "-1", "path", b[0], b[1]);
            }
            none = new int[][] {{0, n}, {-1, n}, {n + 1, n}, {1, n + 1}, {1, 0}, {0, 0}, {1, Integer.MAX_VALUE}};
            for (int[] b : none) {
                Check.refused(h, "-1", "growth", b[0], b[1]);
            }
            byte[] x = new byte[n % 5 == 0 ? 0 : RANDOM.nextInt(100)];
            RANDOM.nextBytes(x);
            leaves.add(x);
            Check.due("leaf", Check.run(h, "leaf", x), String.valueOf(n));
        }
        Check.refused(h, "-1", "head", -1);
        Check.refused(h, "-1", "head", Integer.MAX_VALUE);
        Check.refused(h, "-1", "head", Integer.MIN_VALUE);
    }

    private static String checkPath(CryptHouse h, int i, int n, Object x, String path, String head) {
        return Check.run(h, "checkPath", i, n, x, path, head);
    }

    private static void checkPaths(CryptHouse h, int i, int n, byte[] x, String path, String head) {
        Check.due("a path", checkPath(h, i, n, x, path, head), "1");
        String other = "ab".repeat(32);
        Check.due("another leaf", checkPath(h, i, n, Check.join(x, LEAF), path, head), "0");
        Check.due("another head", checkPath(h, i, n, x, path, other), "0");
        Check.due("too long", checkPath(h, i, n, x, path + other, head), "0");
        Check.due("a part more", checkPath(h, i, n, x, path + "00", head), "0");
        Check.due("no head", checkPath(h, i, n, x, path, head + "00"), "0");
        Check.due("no head", checkPath(h, i, n, x, path, ""), "0");
        Check.due("no such leaf", checkPath(h, n, n, x, path, head), "0");
        Check.due("no such leaf", checkPath(h, -1, n, x, path, head), "0");
        Check.due("no leaves", checkPath(h, i, 0, x, path, head), "0");
        Check.due("no leaves", checkPath(h, i, Integer.MIN_VALUE, x, path, head), "0");
        if (!path.isEmpty()) {
            Check.due("too short", checkPath(h, i, n, x, path.substring(64), head), "0");
            Check.due("another place", checkPath(h, i ^ 1, n, x, path, head), "0");
        }
    }

    private static String checkGrowth(CryptHouse h, int m, int n, String first, String second, String proof) {
        return Check.run(h, "checkGrowth", m, n, first, second, proof);
    }

    private static void checkGrowths(CryptHouse h, int m, int n, String first, String second, String proof) {
        Check.due("growth", checkGrowth(h, m, n, first, second, proof), "1");
        String other = "ab".repeat(32);
        Check.due("another first", checkGrowth(h, m, n, other, second, proof), "0");
        Check.due("another second", checkGrowth(h, m, n, first, other, proof), "0");
        Check.due("too long", checkGrowth(h, m, n, first, second, proof + other), "0");
        Check.due("a part more", checkGrowth(h, m, n, first, second, proof + "00"), "0");
        Check.due("no head", checkGrowth(h, m, n, first + "00", second, proof), "0");
        Check.due("no head", checkGrowth(h, m, n, first, second.substring(2), proof), "0");
        Check.due("none", checkGrowth(h, 0, n, first, second, proof), "0");
        Check.due("more than all", checkGrowth(h, n + 1, n, first, second, proof), "0");
        Check.due("none", checkGrowth(h, -1, -1, first, second, proof), "0");
        if (!proof.isEmpty()) {
            Check.due("too short", checkGrowth(h, m, n, first, second, proof.substring(64)), "0");
            Check.due("nothing", checkGrowth(h, m, n, first, second, ""), "0");
            Check.due("as if whole", checkGrowth(h, n, n, second, second, proof), "0");
        }
        Check.due("whole", checkGrowth(h, n, n, second, second, ""), "1");
    }

    private static void full() {
        CryptHouse h = new CryptHouse();
        List<byte[]> leaves = new ArrayList<>();
        for (int i = 0; i < 1024; i++) {
            byte[] x = {(byte) i, (byte) (i >> 8)};
            leaves.add(x);
            Check.row(h, 0, x);
            Check.due("leaf", h.leaf(0), i);
        }
        Check.due("full", h.leaf(0), -2);
        Check.due("full", h.count(2), 1024);
        for (int n : new int[] {511, 512, 513, 1023, 1024}) {
            List<byte[]> part = leaves.subList(0, n);
            Check.gives(h, Check.hex(head(part)), "head", n);
            Check.gives(h, path(n - 1, part), "path", n - 1, n);
            Check.gives(h, path(300, part), "path", 300, n);
            for (int m : new int[] {1, 255, 256, 257, n - 1}) {
                Check.gives(h, proof(m, part, true), "growth", m, n);
            }
        }
        Check.refused(h, "-1", "head", 1025);
    }

    /** What is checked need not be in the log: a tree of very many leaves, of which the last is one node's right one. */
    private static void wide() {
        CryptHouse h = new CryptHouse();
        byte[] x = {5};
        byte[] other = Check.sha256(x);
        // Of 2^30 + 1 leaves, the last has the head of all others as its partner.
        int n = (1 << 30) + 1;
        String head = Check.hex(Check.sha256(NODE, other, Check.sha256(LEAF, x)));
        Check.due("the last", checkPath(h, n - 1, n, x, Check.hex(other), head), "1");
        Check.due("the last", checkPath(h, n - 2, n, x, Check.hex(other), head), "0");
        Check.due("the last", checkPath(h, Integer.MAX_VALUE - 1, Integer.MAX_VALUE, x, Check.hex(other), head), "0");
        Check.due("growth", checkGrowth(h, 1 << 30, n, Check.hex(other), head, Check.hex(Check.sha256(LEAF, x))), "1");
        Check.due("growth", checkGrowth(h, 1 << 30, Integer.MAX_VALUE, Check.hex(other), head, Check.hex(Check.sha256(LEAF, x))), "1");
        Check.due("growth", checkGrowth(h, 1 << 29, Integer.MAX_VALUE, Check.hex(other), head, Check.hex(Check.sha256(LEAF, x))), "0");
    }
}
