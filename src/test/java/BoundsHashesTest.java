import java.math.BigInteger;
import java.security.MessageDigest;
import java.util.Random;
import javax.crypto.Cipher;
import javax.crypto.spec.SecretKeySpec;

/** The boundary cases of promises 6 to 10: hashes, keyed sums, keys that are derived and stretched, sentence by sentence. */
public final class BoundsHashesTest {
    private static final int LEAST = Integer.MIN_VALUE;
    private static final int MOST = Integer.MAX_VALUE;
    private static final int[] ODD = {LEAST, -1, 0, 1, 33, 65, 8193, MOST};
    private static final String[] NAMES = {
        "SHA-1", "SHA-224", "SHA-256", "SHA-384", "SHA-512", "SHA-512/256", "SHA3-224", "SHA3-256", "SHA3-384", "SHA3-512"
    };
    private static final int[] RATES = {64, 64, 64, 128, 128, 128, 144, 136, 104, 72};
    private static final int[] SIZES = {20, 28, 32, 48, 64, 32, 28, 32, 48, 64};
    /** By Python's hashlib. */
    private static final String SCRYPT_MOST = "850e3218d90e0f3a389f76c1f10e9dcecc16cb21d1c826b59d30eb609c91b063ac7a80d2accdea593a44964af4333d5a4f78"
        + "2e0abf1be695e5f623e3d42f33364cece15234e11ad3f17b3e00143f04f47535131ad610472a62b397199ba726c0a9f6f192"
        + "a4948912946f337bacb4054fb2cbd29d0932a4b9e29fffefd1f1557b0e67c58c533c05d0971a434781c6ad2fd476e5d759c4"
        + "23d116ee13a9ca1676c2bfd6f8eca80072c3d3dbc300c57609995e63dc169f812abc9b62b3b799663c060affbb825371e86d"
        + "1a8a876bb5c5903657d92ee0146ab0a70349c70d77699b58aeab0a57e1940db86902cce87cc03f1c8070257bff96dfcc292e"
        + "038bbff0bacb";
    private static final String SCRYPT_LEAST = "fa76e020d54d9e8aa24023c6baecdd46e2bb067236e8092a93ea46aac54a38594b";
    private static final Twin T = new Twin();

    public static void main(String[] args) throws Exception {
        hashSizes();
        blockEnds();
        blakes();
        pieces();
        longPieces();
        beginnings();
        hmacs();
        kmacs();
        keysOfSums();
        poly1305();
        cmacs();
        derived();
        stretched();
        scrypts();
        T.end();
        Check.end();
    }

    private static byte[] hash(int h, byte[]... parts) throws Exception {
        MessageDigest d = MessageDigest.getInstance(NAMES[h]);
        for (byte[] p : parts) {
            d.update(p);
        }
        return d.digest();
    }

    /** "10, 11 give n bytes, 0 .. 8192, 12 n 1 .. 64, 13 n 1 .. 32 (else -1); for others n is not looked at." */
    private static void hashSizes() throws Exception {
        T.told("for others n is not looked at");
        byte[] x = Examples.some(9, 1);
        for (int h = 0; h < 10; h++) {
            for (int n : ODD) {
                T.gives(Check.hex(hash(h, x)), "hash", h, n, x);
            }
        }
        T.told("10, 11 give n bytes, 0 .. 8192");
        for (int h = 10; h < 12; h++) {
            for (int n : new int[] {0, 1, 135, 136, 137, 167, 168, 169, 336, 8191, 8192}) {
                T.gives(Check.hex(Sponge.shake(h == 11, x, n)), "hash", h, n, x);
            }
            for (int n : new int[] {-1, 8193, LEAST, MOST}) {
                T.leaves(-1, "hash", h, n, x);
            }
        }
        T.told("12 n 1 .. 64, 13 n 1 .. 32 (else -1)");
        for (int h = 12; h < 14; h++) {
            int most = h == 12 ? 64 : 32;
            T.made(1, "hash", h, 1, x);
            T.made(most, "hash", h, most, x);
            for (int n : new int[] {0, -1, most + 1, 8192, LEAST, MOST}) {
                T.leaves(-1, "hash", h, n, x);
            }
        }
    }

    /** Texts that end at, ahead of and behind the end of a block, and where a padding needs one more; none and a full one. */
    private static void blockEnds() throws Exception {
        T.told("the hash h of x");
        for (int h = 0; h < 12; h++) {
            int rate = h < 10 ? RATES[h] : h == 10 ? 168 : 136;
            int[] sizes = {0, 1, rate - 17, rate - 16, rate - 9, rate - 8, rate - 2, rate - 1, rate, rate + 1, 2 * rate - 1, 2 * rate, 8191, 8192};
            for (int n : sizes) {
                byte[] x = Examples.some(n, h);
                byte[] want = h < 10 ? hash(h, x) : Sponge.shake(h == 11, x, 40);
                T.gives(Check.hex(want), "hash", h, 40, x);
            }
        }
    }

    /** BLAKE2 of all sizes, without and with keys of all sizes; what is due was summed up by Python's hashlib. */
    private static void blakes() {
        T.told("12 BLAKE2b, 13 BLAKE2s");
        int[] sizes = {0, 1, 63, 64, 65, 127, 128, 129, 255, 256, 257, 8192};
        String[] plain = {
            "59be7495e84e75fb7dd9846179b74446b6bbcd341eda8ba490f6c7465568ac2f",
            "1f5c016a66e59b9e5a89e5401f4cbfe5d4c1076a16231f0f248b90e0c570a90c"
        };
        String[] keyed = {
            "d2fe7a17b012f1da136ca8728c5ee0e7863fee44884e722caf19fcb8f2c6cd90",
            "c963e40771530d4387ac28fc9bf4ca86bf281f7b6ee1e3274faf2a4416c0520d"
        };
        CryptHouse h = new CryptHouse();
        for (int kind = 12; kind < 14; kind++) {
            int most = kind == 12 ? 64 : 32;
            StringBuilder all = new StringBuilder();
            StringBuilder allKeyed = new StringBuilder();
            for (int i = 1; i <= most; i++) {
                for (int n : sizes) {
                    Check.run(h, "hash", kind, i, Examples.some(n, i));
                    all.append(Check.text(h, Check.TO));
                    Check.run(h, "sum", kind, most + 1 - i, Examples.some(i, n), Examples.some(n, i));
                    allKeyed.append(Check.text(h, Check.TO));
                }
            }
            Check.due("BLAKE2 " + kind, Check.hex(Check.sha256(Check.bytes(all.toString()))), plain[kind - 12]);
            Check.due("keyed BLAKE2 " + kind, Check.hex(Check.sha256(Check.bytes(allKeyed.toString()))), keyed[kind - 12]);
        }
    }

    /** "one hash may be under way; its rows are put together as if they were one": parts that end where blocks do. */
    private static void pieces() {
        CryptHouse h = new CryptHouse();
        for (int kind = 0; kind < 14; kind++) {
            int rate = kind < 10 ? RATES[kind] : kind == 10 ? 168 : kind == 11 ? 136 : kind == 12 ? 128 : 64;
            int[][] parts = {{0, 0}, {rate, 0}, {0, rate, 0}, {rate, rate}, {rate - 1, 1}, {rate - 1, 2}, {1, rate - 1, rate}, {2 * rate, 1}};
            for (int[] sizes : parts) {
                byte[] all = new byte[0];
                Check.due("begin", h.begin(kind, 32), 0);
                for (int n : sizes) {
                    byte[] part = Examples.some(n, n + kind);
                    all = Check.join(all, part);
                    Check.due("more", Check.run(h, "more", part), "0");
                    // The bytes that came are taken; what the row holds later does not count.
                    h.fill(n, 0, 0);
                }
                Check.row(h, 2, all);
                int size = h.hash(kind, 32, 2, 3);
                Check.due("done", h.done(4), size);
                Check.due("pieces of " + kind, Check.text(h, 4), Check.text(h, 3));
                Check.due("nothing under way", h.count(1), 0);
                Check.due("nothing under way", h.done(4), -3);
                Check.due("nothing under way", h.more(4), -3);
                Check.due("left", Check.text(h, 4), Check.text(h, 3));
            }
        }
    }

    /** A hash of more than a row can hold. */
    private static void longPieces() throws Exception {
        CryptHouse h = new CryptHouse();
        byte[] part = Examples.some(8192, 1);
        for (int kind = 0; kind < 10; kind++) {
            h.begin(kind, -1);
            Check.row(h, 0, part);
            for (int i = 0; i < 9; i++) {
                Check.due("more", h.more(0), 0);
            }
            h.done(0);
            Check.due("long " + kind, Check.text(h, 0), Check.hex(hash(kind, part, part, part, part, part, part, part, part, part)));
        }
    }

    /** "A hash begins (in place of one that is under way): 0, or -1 (that one stays)." */
    private static void beginnings() throws Exception {
        Twin t = new Twin().told("-1 (that one stays)");
        int[][] bad = {{10, -1}, {10, 8193}, {11, -1}, {11, 8193}, {12, 0}, {12, 65}, {13, 0}, {13, 33}, {12, -1}, {13, MOST}};
        for (int[] b : bad) {
            t.leaves(-1, "begin", b[0], b[1]);
        }
        t.told("IllegalArgumentException ahead of all");
        for (int h : new int[] {-1, 14, LEAST, MOST}) {
            t.thrown("begin", h, 5);
            t.thrown("begin", h, -1);
        }
        t.end();
        CryptHouse h = new CryptHouse();
        for (int[] b : bad) {
            Check.due("begin", h.begin(b[0], b[1]), -1);
            Check.due("none is under way", h.count(1), 0);
        }
        int[][] good = {{10, 0}, {10, 8192}, {11, 0}, {11, 8192}, {12, 1}, {12, 64}, {13, 1}, {13, 32}};
        for (int[] g : good) {
            Check.due("begin", h.begin(g[0], g[1]), 0);
            Check.due("one is under way", h.count(1), 1);
            Check.due("done", h.done(5), g[1]);
        }
        for (int n : ODD) {
            Check.due("begin", h.begin(2, n), 0);
            Check.due("another in its place", h.begin(0, n), 0);
            Check.due("one is under way", h.count(1), 1);
            Check.due("done", h.done(5), 20);
            Check.due("of nothing", Check.text(h, 5), Check.hex(hash(0)));
        }
    }

    /** HMAC by the library's hashes. */
    static byte[] hmac(int h, byte[] key, byte[] x) throws Exception {
        byte[] pad = java.util.Arrays.copyOf(key.length > RATES[h] ? hash(h, key) : key, RATES[h]);
        byte[] inner = pad.clone();
        for (int i = 0; i < pad.length; i++) {
            inner[i] ^= 0x36;
            pad[i] ^= 0x5c;
        }
        return hash(h, pad, hash(h, inner, x));
    }

    /** "0 .. 9 HMAC (RFC 2104) with hash h": keys of none, of a block, of a byte more, of all; n is not looked at. */
    private static void hmacs() throws Exception {
        T.told("n is looked at by 10 .. 13 alone");
        for (int h = 0; h < 10; h++) {
            for (int n : new int[] {0, 1, RATES[h] - 1, RATES[h], RATES[h] + 1, 8192}) {
                byte[] key = Examples.some(n, 1);
                byte[] x = Examples.some(n, 2);
                T.gives(Check.hex(hmac(h, key, x)), "sum", h, ODD[n % ODD.length], key, x);
            }
        }
        for (int n : ODD) {
            T.made(16, "sum", 14, n, Examples.some(16, 1), "00");
            T.made(16, "sum", 15, n, Examples.some(32, 1), "00");
            T.made(20, "sum", 0, n, "", "");
        }
    }

    /** "10, 11 KMAC128, KMAC256 (SP 800-185) of n bytes, 0 .. 8192, no customization". */
    private static void kmacs() {
        T.told("KMAC of n bytes, 0 .. 8192");
        for (int kind = 10; kind < 12; kind++) {
            for (int n : new int[] {0, 1, 31, 32, 8191, 8192}) {
                byte[] key = Examples.some(n, 3);
                byte[] x = Examples.some(n, 4);
                T.gives(Check.hex(Sponge.kmac(kind == 11, key, x, n)), "sum", kind, n, key, x);
            }
            // Where the key with what stands ahead of it fills whole blocks.
            for (int n = 126; n <= 168; n++) {
                byte[] key = Examples.some(n, 3);
                T.gives(Check.hex(Sponge.kmac(kind == 11, key, key, n)), "sum", kind, n, key, key);
            }
            for (int n : new int[] {-1, 8193, LEAST, MOST}) {
                T.leaves(-1, "sum", kind, n, "00", "00");
            }
        }
    }

    /** "12, 13 .. with a key (1 .. 64, 1 .. 32 bytes), n as above; 14 CMAC .. with AES; 15 POLY1305 (.. the key has 32 bytes). A key that may not be: -1". */
    private static void keysOfSums() {
        T.told("A key that may not be: -1");
        for (int n = 0; n <= 66; n++) {
            byte[] key = Examples.some(n, 1);
            boolean[] fits = {n >= 1 && n <= 64, n >= 1 && n <= 32, n == 16 || n == 24 || n == 32, n == 32};
            for (int kind = 12; kind < 16; kind++) {
                if (fits[kind - 12]) {
                    T.made(16, "sum", kind, 16, key, "00");
                } else {
                    T.leaves(-1, "sum", kind, 16, key, "00");
                }
            }
        }
        for (int kind = 12; kind < 16; kind++) {
            T.leaves(-1, "sum", kind, 16, Examples.some(8192, 1), "00");
        }
        T.told("n as above");
        for (int kind = 12; kind < 14; kind++) {
            int most = kind == 12 ? 64 : 32;
            T.made(1, "sum", kind, 1, "00", "");
            T.made(most, "sum", kind, most, "00", "");
            for (int n : new int[] {0, -1, most + 1, LEAST, MOST}) {
                T.leaves(-1, "sum", kind, n, "00", "00");
            }
        }
        T.told("IllegalArgumentException for a kind");
        for (int kind : new int[] {-1, 16, LEAST, MOST}) {
            T.thrown("sum", kind, -1, "", "");
        }
    }

    /** RFC 8439's sum as it is told there, with wide numbers. */
    private static String poly(String key, String x) {
        BigInteger p = BigInteger.TWO.pow(130).subtract(BigInteger.valueOf(5));
        BigInteger r = Twisted.number(key.substring(0, 32)).and(new BigInteger("0ffffffc0ffffffc0ffffffc0fffffff", 16));
        BigInteger sum = BigInteger.ZERO;
        for (int at = 0; at < x.length(); at += 32) {
            String part = x.substring(at, Math.min(x.length(), at + 32)) + "01";
            sum = sum.add(Twisted.number(part)).multiply(r).mod(p);
        }
        return Twisted.little(sum.add(Twisted.number(key.substring(32)))).substring(0, 32);
    }

    /** "15 POLY1305 (RFC 8439; the key has 32 bytes)": sums about 2^130 - 5 and about 2^128, texts of all sizes. */
    private static void poly1305() {
        T.told("15 POLY1305 (RFC 8439)");
        Random random = new Random(14);
        String[] keys = {
            "00".repeat(32), "01" + "00".repeat(31), "02" + "00".repeat(31), "01" + "00".repeat(15) + "ff".repeat(16), "02" + "00".repeat(15) + "ff".repeat(16),
            "ff".repeat(32), "ff".repeat(16) + "00".repeat(16), "fffffffffcffffff0fcffffff0fcffff".substring(0, 32) + "01".repeat(16),
            "0100000000000000" + "04" + "00".repeat(23), Check.hex(Examples.some(32, 1))
        };
        String[] blocks = {
            "ff".repeat(16), "00".repeat(16), "fb" + "ff".repeat(15), "fc" + "ff".repeat(15), "fa" + "ff".repeat(15), "fbfefefefefefefefefefefefefefefe",
            "f0" + "ff".repeat(15), "11" + "00".repeat(15), "01".repeat(16), "02" + "00".repeat(15), "fd" + "ff".repeat(15), "fe" + "ff".repeat(15),
            "e33594d7505e43b9" + "00".repeat(8), "3394d7505e4379cd01" + "00".repeat(7), "04" + "00".repeat(15), "05" + "00".repeat(15)
        };
        for (String key : keys) {
            for (String a : blocks) {
                for (String b : blocks) {
                    T.gives(poly(key, a + b), "sum", 15, -1, key, a + b);
                    String c = blocks[random.nextInt(blocks.length)] + blocks[random.nextInt(blocks.length)];
                    T.gives(poly(key, a + b + c), "sum", 15, -1, key, a + b + c);
                }
                T.gives(poly(key, a), "sum", 15, -1, key, a);
            }
            for (int n = 0; n <= 66; n++) {
                String x = (n % 2 == 0 ? "ff" : "00").repeat(n);
                T.gives(poly(key, x), "sum", 15, -1, key, x);
            }
            // With r 1 the sum is the blocks' own: four of them, and what is left to 2^130 - 5.
            for (int v = 0; v < 12; v++) {
                String x = "ff".repeat(48) + String.format("%02x", 0xf8 + v & 255) + (v < 8 ? "ff" : "00").repeat(v < 8 ? 15 : 14) + (v < 8 ? "" : "01");
                T.gives(poly(key, x), "sum", 15, -1, key, x);
                T.gives(poly(key, x + "ff".repeat(16)), "sum", 15, -1, key, x + "ff".repeat(16));
            }
        }
        String full = Check.hex(Examples.some(8192, 3));
        T.gives(poly(keys[9], full), "sum", 15, -1, keys[9], full);
        T.gives(poly(keys[5], "ff".repeat(8192)), "sum", 15, -1, keys[5], "ff".repeat(8192));
    }

    private static byte[] doubled(byte[] a) {
        BigInteger v = new BigInteger(1, a).shiftLeft(1);
        v = v.testBit(128) ? v.clearBit(128).xor(BigInteger.valueOf(0x87)) : v;
        return Check.bytes(String.format("%032x", v));
    }

    /** "14 CMAC (SP 800-38B) with AES": texts that end with a whole block, and such that do not; none. */
    private static void cmacs() throws Exception {
        T.told("14 CMAC (SP 800-38B) with AES");
        for (int size : new int[] {16, 24, 32}) {
            for (int i = 0; i <= 50; i++) {
                int n = i < 50 ? i : 8192;
                byte[] key = Examples.some(size, i);
                byte[] x = Examples.some(n, size);
                Cipher c = Cipher.getInstance("AES/ECB/NoPadding");
                c.init(Cipher.ENCRYPT_MODE, new SecretKeySpec(key, "AES"));
                byte[] last = doubled(c.doFinal(new byte[16]));
                boolean whole = n > 0 && n % 16 == 0;
                byte[] padded = whole ? x : java.util.Arrays.copyOf(x, n / 16 * 16 + 16);
                if (!whole) {
                    last = doubled(last);
                    padded[n] = (byte) 128;
                }
                byte[] chain = new byte[16];
                for (int at = 0; at < padded.length; at += 16) {
                    for (int k = 0; k < 16; k++) {
                        chain[k] ^= padded[at + k] ^ (at + 16 == padded.length ? last[k] : 0);
                    }
                    chain = c.doFinal(chain);
                }
                T.gives(Check.hex(chain), "sum", 14, ODD[i % ODD.length], key, x);
            }
        }
    }

    private static byte[] hkdf(int h, byte[] secret, byte[] salt, byte[] info, int n) throws Exception {
        byte[] key = hmac(h, salt, secret);
        byte[] last = new byte[0];
        byte[] all = new byte[0];
        for (int i = 1; all.length < n; i++) {
            last = hmac(h, key, Check.join(last, info, new byte[] {(byte) i}));
            all = Check.join(all, last);
        }
        return java.util.Arrays.copyOf(all, n);
    }

    /** "HKDF (RFC 5869) with hash h 0 .. 9, n 0 .. 255 times its size, but at most 8192 .. Others: -1." */
    private static void derived() throws Exception {
        T.told("n 0 .. 255 times its size, but at most 8192");
        byte[] secret = Examples.some(22, 1);
        for (int h = 0; h < 10; h++) {
            int most = Math.min(8192, 255 * SIZES[h]);
            for (int n : new int[] {0, 1, SIZES[h] - 1, SIZES[h], SIZES[h] + 1, most - 1, most}) {
                T.gives(Check.hex(hkdf(h, secret, new byte[0], secret, n)), "derive", h, secret, "", secret, n);
            }
            for (int n : new int[] {-1, most + 1, LEAST, MOST}) {
                T.leaves(-1, "derive", h, secret, secret, secret, n);
            }
        }
        byte[] full = Examples.some(8192, 1);
        T.gives(Check.hex(hkdf(4, full, full, full, 200)), "derive", 4, full, full, full, 200);
        T.gives(Check.hex(hkdf(0, new byte[0], new byte[0], new byte[0], 41)), "derive", 0, "", "", "", 41);
        T.told("others throw");
        for (int h : new int[] {-1, 10, 13, LEAST, MOST}) {
            T.thrown("derive", h, "", "", "", -1);
        }
    }

    private static byte[] pbkdf2(int h, byte[] password, byte[] salt, int rounds, int n) throws Exception {
        byte[] all = new byte[0];
        for (int i = 1; all.length < n; i++) {
            byte[] u = hmac(h, password, Check.join(salt, new byte[] {0, 0, 0, (byte) i}));
            byte[] sum = u.clone();
            for (int r = 1; r < rounds; r++) {
                u = hmac(h, password, u);
                for (int k = 0; k < u.length; k++) {
                    sum[k] ^= u[k];
                }
            }
            all = Check.join(all, sum);
        }
        return java.util.Arrays.copyOf(all, n);
    }

    /** "PBKDF2 (RFC 8018) with HMAC of h 0 .. 9, rounds 1 .. 1000, n 1 .. 256". */
    private static void stretched() throws Exception {
        T.told("rounds 1 .. 1000, n 1 .. 256");
        byte[] password = Examples.some(11, 1);
        byte[] salt = Examples.some(7, 2);
        for (int h = 0; h < 10; h++) {
            for (int n : new int[] {1, SIZES[h], SIZES[h] + 1, 255, 256}) {
                T.gives(Check.hex(pbkdf2(h, password, salt, 2, n)), "stretch", h, password, salt, 2, n);
            }
            T.gives(Check.hex(pbkdf2(h, password, salt, 1, 20)), "stretch", h, password, salt, 1, 20);
            int[][] bad = {{0, 20}, {-1, 20}, {1001, 20}, {LEAST, 20}, {MOST, 20}, {1, 0}, {1, -1}, {1, 257}, {1, LEAST}, {1, MOST}};
            for (int[] b : bad) {
                T.leaves(-1, "stretch", h, password, salt, b[0], b[1]);
            }
        }
        for (int rounds : new int[] {999, 1000}) {
            T.gives(Check.hex(pbkdf2(2, password, salt, rounds, 33)), "stretch", 2, password, salt, rounds, 33);
        }
        byte[] full = Examples.some(8192, 1);
        T.gives(Check.hex(pbkdf2(2, full, full, 2, 40)), "stretch", 2, full, full, 2, 40);
        T.gives(Check.hex(pbkdf2(2, new byte[0], new byte[0], 2, 40)), "stretch", 2, "", "", 2, 40);
        T.told("h 0 .. 9: others throw");
        for (int h : new int[] {-1, 10, LEAST, MOST}) {
            T.thrown("stretch", h, "", "", 0, 0);
        }
    }

    /** "scrypt (RFC 7914), cost a power of two 2 .. 64, r and p 1 .. 4, n 1 .. 256. Others: -1." */
    private static void scrypts() {
        T.told("cost a power of two 2 .. 64, r and p 1 .. 4, n 1 .. 256. Others: -1");
        for (int cost = -2; cost <= 130; cost++) {
            boolean fits = cost >= 2 && cost <= 64 && Integer.bitCount(cost) == 1;
            if (fits) {
                T.made(20, "scrypt", "70", "73", cost, 1, 1, 20);
            } else {
                T.leaves(-1, "scrypt", "70", "73", cost, 1, 1, 20);
            }
        }
        for (int v = -1; v <= 6; v++) {
            boolean fits = v >= 1 && v <= 4;
            if (fits) {
                T.made(20, "scrypt", "70", "73", 2, v, 1, 20);
                T.made(20, "scrypt", "70", "73", 2, 1, v, 20);
            } else {
                T.leaves(-1, "scrypt", "70", "73", 2, v, 1, 20);
                T.leaves(-1, "scrypt", "70", "73", 2, 1, v, 20);
            }
        }
        for (int odd : new int[] {LEAST, MOST, 1 << 30, -64}) {
            T.leaves(-1, "scrypt", "70", "73", odd, 1, 1, 20);
            T.leaves(-1, "scrypt", "70", "73", 2, odd, 1, 20);
            T.leaves(-1, "scrypt", "70", "73", 2, 1, odd, 20);
            T.leaves(-1, "scrypt", "70", "73", 2, 1, 1, odd);
        }
        for (int n : new int[] {0, -1, 257}) {
            T.leaves(-1, "scrypt", "70", "73", 2, 1, 1, n);
        }
        T.made(1, "scrypt", "", "", 2, 1, 1, 1);
        T.told("scrypt at its most");
        T.gives(SCRYPT_MOST, "scrypt", Examples.some(8192, 1), Examples.some(8192, 2), 64, 4, 4, 256);
        T.gives(SCRYPT_LEAST, "scrypt", "", "", 2, 1, 1, 33);
    }
}
