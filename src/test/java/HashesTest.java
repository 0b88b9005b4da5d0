import java.security.MessageDigest;
import java.util.Random;

/** Promises 6 to 9 beside the vectors: pieces, the hash that is under way, sizes that are refused. */
public final class HashesTest {
    private static final String[] NAMES = {
        "SHA-1", "SHA-224", "SHA-256", "SHA-384", "SHA-512", "SHA-512/256", "SHA3-224", "SHA3-256", "SHA3-384", "SHA3-512"
    };

    public static void main(String[] args) throws Exception {
        CryptHouse h = new CryptHouse();
        Random random = new Random(1);
        for (int kind = 0; kind < 14; kind++) {
            for (int size : new int[] {0, 1, 55, 64, 111, 112, 128, 136, 144, 168, 200, 8192}) {
                pieces(h, kind, size, random);
            }
        }
        underWay();
        sizes(h);
        stretchLimits(h);
        Check.end();
    }

    private static void pieces(CryptHouse h, int kind, int size, Random random) throws Exception {
        byte[] all = new byte[size];
        random.nextBytes(all);
        Check.row(h, 0, all);
        int n = kind < 10 ? -7 : 1 + random.nextInt(32);
        Check.due("hash " + kind, h.hash(kind, n, 0, 1), kind < 10 ? MessageDigest.getInstance(NAMES[kind]).getDigestLength() : n);
        if (kind < 10) {
            Check.due("hash " + kind, Check.text(h, 1), Check.hex(MessageDigest.getInstance(NAMES[kind]).digest(all)));
        }
        Check.due("begin", h.begin(kind, n), 0);
        int at = 0;
        for (int i = 0; i < 6; i++) {
            int part = i == 5 ? size - at : random.nextInt(size - at + 1);
            h.cut(0, at, part, 2);
            Check.due("more", h.more(2), 0);
            at += part;
        }
        Check.due("under way", h.count(1), 1);
        Check.due("done", h.done(0), h.size(1));
        Check.due("pieces " + kind + " " + size, Check.text(h, 0), Check.text(h, 1));
        Check.due("under way", h.count(1), 0);
    }

    private static void underWay() {
        CryptHouse h = new CryptHouse();
        Check.row(h, 0, "616263");
        Check.due("more", h.more(0), -3);
        Check.row(h, 1, "07");
        Check.due("done", h.done(1), -3);
        Check.due("left", Check.text(h, 1), "07");
        h.begin(0, 0);
        h.more(0);
        Check.due("begin", h.begin(12, 0), -1);
        Check.due("begin", h.begin(10, 8193), -1);
        Check.due("begin", h.begin(13, 33), -1);
        Check.due("the one before stays", h.done(1), 20);
        Check.due("SHA-1", Check.text(h, 1), "a9993e364706816aba3e25717850c26c9cd0d89d");
        h.begin(0, 0);
        h.more(1);
        h.begin(2, 0);
        h.more(0);
        // What is hashed besides leaves the one that is under way alone.
        h.hash(2, 0, 1, 3);
        h.leaf(1);
        Check.due("in its place", h.done(1), 32);
        Check.due("SHA-256", Check.text(h, 1), "ba7816bf8f01cfea414140de5dae2223b00361a396177a9cb410ff61f20015ad");
        Check.due("done", h.done(1), -3);
        Check.due("BLAKE2b", h.hash(12, 64, 0, 2), 64);
        Check.due("BLAKE2b", Check.text(h, 2), "ba80a53f981c4d0d6a2797b69f12f6e94c212f14685ac4b74b12bb6fdbffa2d1"
            + "7d87c5392aab792dc252d5de4533cc9518d38aa8dbf1925ab92386edd4009923");
        Check.due("BLAKE2s", h.hash(13, 32, 0, 0), 32);
        Check.due("BLAKE2s", Check.text(h, 0), "508c5e8c327c14e2e1a72ba34eeb452f37458b209ed63a294d999b4c86675982");
    }

    private static void sizes(CryptHouse h) {
        int[][] bad = {{10, -1}, {10, 8193}, {11, -1}, {11, 8193}, {12, 0}, {12, 65}, {13, 0}, {13, 33}};
        for (int[] b : bad) {
            Check.refused(h, "-1", "hash", b[0], b[1], "00");
            Check.refused(h, "-1", "sum", b[0], b[1], "00", "00");
        }
        Check.gives(h, "", "hash", 10, 0, "00");
        Check.gives(h, "", "sum", 11, 0, "", "00");
        Check.due("XOF", Check.run(h, "hash", 11, 8192, "00"), "8192");
        Check.due("KMAC", Check.run(h, "sum", 10, 8192, "00", "00"), "8192");
        String key32 = "00".repeat(32);
        Check.refused(h, "-1", "sum", 12, 9, "", "00");
        Check.refused(h, "-1", "sum", 12, 9, key32 + key32 + "00", "00");
        Check.refused(h, "-1", "sum", 13, 9, "", "00");
        Check.refused(h, "-1", "sum", 13, 9, key32 + "00", "00");
        for (int n : new int[] {0, 15, 17, 31, 33}) {
            Check.refused(h, "-1", "sum", 14, 9, "00".repeat(n), "00");
            Check.refused(h, "-1", "sum", 15, 9, "00".repeat(n), "00");
        }
        Check.refused(h, "-1", "sum", 15, 9, "00".repeat(16), "00");
        for (int kind = 0; kind < 10; kind++) {
            int size = Integer.parseInt(Check.run(h, "hash", kind, 0, ""));
            int most = Math.min(8192, 255 * size);
            Check.due("derive", Check.run(h, "derive", kind, "00", "", "", most), String.valueOf(most));
            Check.refused(h, "-1", "derive", kind, "00", "", "", most + 1);
            Check.refused(h, "-1", "derive", kind, "00", "", "", -1);
        }
        Check.refused(h, "-1", "derive", 2, "00", "", "", Integer.MAX_VALUE);
        Check.gives(h, "", "derive", 2, "00", "", "", 0);
    }

    private static void stretchLimits(CryptHouse h) {
        Check.gives(h, "0c60c80f961f0e71f3a9b524af6012062fe037a6", "stretch", 0, "70617373776f7264", "73616c74", 1, 20);
        for (int[] bad : new int[][] {{0, 20}, {1001, 20}, {1, 0}, {1, 257}, {-1, -1}}) {
            Check.refused(h, "-1", "stretch", 2, "00", "00", bad[0], bad[1]);
        }
        Check.due("stretch", Check.run(h, "stretch", 9, "00", "00", 1000, 256), "256");
        int[][] bad = {{0, 1, 1, 1}, {1, 1, 1, 1}, {3, 1, 1, 1}, {128, 1, 1, 1}, {-2, 1, 1, 1}, {Integer.MIN_VALUE, 1, 1, 1},
            {2, 0, 1, 1}, {2, 5, 1, 1}, {2, 1, 0, 1}, {2, 1, 5, 1}, {2, 1, 1, 0}, {2, 1, 1, 257}};
        for (int[] b : bad) {
            Check.refused(h, "-1", "scrypt", "00", "00", b[0], b[1], b[2], b[3]);
        }
        Check.gives(h, "77d6576238657b203b19ca42c18a0497", "scrypt", "", "", 16, 1, 1, 16);
    }
}
