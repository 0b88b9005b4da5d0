import java.math.BigInteger;
import java.util.Random;

/** The boundary cases of RSA (promise 15): sizes of n, e and of what is sealed or signed, and what does not open or fit. */
public final class BoundsRsaTest {
    private static final BigInteger ONE = BigInteger.ONE;
    private static final BigInteger TWO = BigInteger.TWO;
    private static final int[] SIZES = {20, 28, 32, 48, 64, 32, 28, 32, 48, 64};
    /** What stands ahead of the hash in DigestInfo, by RFC 8017 and the published identifiers. */
    private static final String[] NAMES = {
        "3021300906052b0e03021a05000414", "302d300d06096086480165030402040500041c", "3031300d060960864801650304020105000420",
        "3041300d060960864801650304020205000430", "3051300d060960864801650304020305000440",
        "3031300d060960864801650304020605000420", "302d300d06096086480165030402070500041c",
        "3031300d060960864801650304020805000420", "3041300d060960864801650304020905000430",
        "3051300d060960864801650304020a05000440"
    };
    private static final Twin T = new Twin();
    private static BigInteger n;
    private static BigInteger e;
    private static BigInteger d;
    private static int k;

    public static void main(String[] args) {
        moduli();
        exponents();
        hashes();
        int[] bits = {505, 506, 507, 508, 509, 510, 511, 512, 513, 520, 521, 528, 529, 616, 617, 624, 625, 736, 744, 745, 752, 1001, 1002, 1024};
        for (int b : bits) {
            makeKey(b);
            oaep();
            sealedWithPadding();
            pss();
            signedWithName();
        }
        makeKey(768);
        oaepForms();
        paddedForms();
        pssForms();
        namedForms();
        notBelow();
        order();
        fullRows();
        T.end();
        Check.end();
    }

    private static String bytes(BigInteger v) {
        return NumbersTest.bytes(v);
    }

    private static String fixed(BigInteger v, int size) {
        String s = v.toString(16);
        return "0".repeat(2 * size - s.length()) + s;
    }

    private static void makeKey(int bits) {
        Random random = new Random(bits);
        e = BigInteger.valueOf(65537);
        BigInteger phi;
        do {
            BigInteger p = BigInteger.probablePrime(bits / 2, random);
            BigInteger q = BigInteger.probablePrime(bits - bits / 2, random);
            n = p.multiply(q);
            phi = p.subtract(ONE).multiply(q.subtract(ONE));
        } while (n.bitLength() != bits || !phi.gcd(e).equals(ONE));
        d = e.modInverse(phi);
        k = (bits + 7) / 8;
    }

    private static String power(String x, BigInteger by) {
        return fixed(new BigInteger(x, 16).modPow(by, n), k);
    }

    /** "n and e (or d) NUMBERS, k the bytes of n, at least 64 (else -1)". */
    private static void moduli() {
        String padding = "01".repeat(60);
        T.told("k the bytes of n, at least 64 (else -1)");
        for (int size : new int[] {0, 1, 11, 62, 63, 64, 65, 127, 128, 129, 200}) {
            // The highest and the lowest number of so many bytes.
            for (int i = 0; i < 2 && size > 0; i++) {
                String m = i == 0 ? "ff".repeat(size) : "01" + "00".repeat(Math.max(0, size - 2)) + (size > 1 ? "01" : "");
                for (int kind = 0; kind < 8; kind++) {
                    boolean fits = size >= 64 && size <= 128;
                    String x = kind % 2 == 0 ? "07" : kind == 1 || kind == 3 ? "00".repeat(size) : "07";
                    String more = kind == 0 ? "09".repeat(20) : kind == 2 ? "09".repeat(Math.max(0, size - 4))
                        : kind == 5 ? "00" + "00".repeat(size) : kind == 7 ? "00".repeat(size) : "";
                    if (!fits) {
                        T.leaves(-1, "rsa", kind, 0, m, "03", x, more);
                        T.leaves(-1, "rsa", kind, 0, "0000" + m, "03", x, more);
                    } else if (kind % 2 == 0) {
                        String y = T.made(size, "rsa", kind, 0, m, "03", x, more);
                        T.gives(y, "rsa", kind, 0, "0000" + m, "000003", x, more);
                    } else {
                        T.leaves(-3, "rsa", kind, 0, m, "03", x, more);
                    }
                }
            }
        }
        T.leaves(-1, "rsa", 2, 0, "", "03", "00", padding);
        T.told("sealed and signed: k bytes, by any n");
        String even = "ff".repeat(63) + "fe";
        String text = "0002" + padding + "00" + "05";
        BigInteger want = new BigInteger(text, 16).modPow(BigInteger.valueOf(5), new BigInteger(even, 16));
        T.gives(fixed(want, 64), "rsa", 2, 0, even, "05", "05", padding);
    }

    /** "e at least 3 and below n (else -1)". */
    private static void exponents() {
        makeKey(512);
        String padding = "01".repeat(60);
        String text = "0002" + padding + "00" + "05";
        T.told("e at least 3 and below n (else -1)");
        for (BigInteger v : new BigInteger[] {BigInteger.valueOf(3), BigInteger.valueOf(4), BigInteger.valueOf(5), n.subtract(TWO), n.subtract(ONE)}) {
            T.gives(power(text, v), "rsa", 2, 0, bytes(n), bytes(v), "05", padding);
            T.gives(power(text, v), "rsa", 2, 0, "00" + bytes(n), "000000" + bytes(v), "05", padding);
        }
        for (BigInteger v : new BigInteger[] {BigInteger.ZERO, ONE, TWO, n, n.add(ONE), n.shiftLeft(8), TWO.pow(1023), TWO.pow(1024), TWO.pow(8192)}) {
            for (int kind = 0; kind < 8; kind++) {
                T.leaves(-1, "rsa", kind, 0, bytes(n), bytes(v), "05", padding);
                T.leaves(-1, "rsa", kind, 0, bytes(n), "0000" + bytes(v), "05", padding);
            }
        }
    }

    /** "hash h 0 .. 9 (looked at by all but 2, 3; it must be one anyway)". */
    private static void hashes() {
        T.told("it must be one anyway");
        for (int kind = 0; kind < 8; kind++) {
            for (int h : new int[] {-1, 10, 13, Integer.MIN_VALUE, Integer.MAX_VALUE}) {
                T.thrown("rsa", kind, h, bytes(n), bytes(e), "05", "01".repeat(60));
            }
        }
        for (int kind : new int[] {-1, 8, Integer.MIN_VALUE, Integer.MAX_VALUE}) {
            T.thrown("rsa", kind, 0, bytes(n), bytes(e), "05", "01".repeat(60));
        }
        T.told("looked at by all but 2, 3");
        String y = T.made(k, "rsa", 2, 0, bytes(n), bytes(e), "05", "01".repeat(60));
        for (int h = 1; h < 10; h++) {
            T.gives(y, "rsa", 2, h, bytes(n), bytes(e), "05", "01".repeat(60));
            T.gives("05", "rsa", 3, h, bytes(n), bytes(d), y, "07");
        }
    }

    /** "0 OAEP, more: the seed (as long as the hash) and then the label"; "What is too long .. or an n too short for the hash: -1". */
    private static void oaep() {
        for (int h = 0; h < 10; h++) {
            int most = k - 2 * SIZES[h] - 2;
            String seed = Check.hex(Examples.some(SIZES[h], h));
            T.told("an n too short for the hash: -1");
            if (most < 0) {
                T.leaves(-1, "rsa", 0, h, bytes(n), bytes(e), "", seed);
                T.leaves(-1, "rsa", 1, h, bytes(n), bytes(d), "00".repeat(k), "");
                T.leaves(-1, "rsa", 1, h, bytes(n), bytes(d), bytes(n), "");
                continue;
            }
            for (int size : new int[] {0, 1, most - 1, most}) {
                if (size < 0 || size > most) {
                    continue;
                }
                String x = Check.hex(Examples.some(size, 3));
                String label = Check.hex(Examples.some(size % 5, 4));
                String y = T.made(k, "rsa", 0, h, bytes(n), bytes(e), x, seed + label);
                T.gives(x, "rsa", 1, h, bytes(n), bytes(d), y, label);
                T.leaves(-3, "rsa", 1, h, bytes(n), bytes(d), y, label + "00");
            }
            T.told("What is too long: -1");
            T.leaves(-1, "rsa", 0, h, bytes(n), bytes(e), "00".repeat(most + 1), seed);
            T.leaves(-1, "rsa", 0, h, bytes(n), bytes(e), "00".repeat(8192), seed);
            T.told("the seed (as long as the hash)");
            T.leaves(-1, "rsa", 0, h, bytes(n), bytes(e), "", seed.substring(2));
            T.leaves(-1, "rsa", 0, h, bytes(n), bytes(e), "", "");
            T.made(k, "rsa", 0, h, bytes(n), bytes(e), "", seed);
            T.made(k, "rsa", 0, h, bytes(n), bytes(e), "", seed + "00".repeat(8192 - SIZES[h]));
            T.told("of another size: -1");
            for (int size : new int[] {0, k - 1, k + 1, 8192}) {
                T.leaves(-1, "rsa", 1, h, bytes(n), bytes(d), "00".repeat(size), "");
            }
        }
    }

    /** "2 PKCS1 v1.5 sealed, more: the padding, as many bytes as are needed, none 0 (else -1). 3 back." */
    private static void sealedWithPadding() {
        T.told("the padding, as many bytes as are needed, none 0 (else -1)");
        for (int size : new int[] {0, 1, 9, k - 12, k - 11}) {
            String x = Check.hex(Examples.some(size, 5));
            String padding = "5a".repeat(k - 3 - size);
            String y = power("0002" + padding + "00" + x, e);
            T.gives(y, "rsa", 2, 0, bytes(n), bytes(e), x, padding);
            T.gives(x, "rsa", 3, 0, bytes(n), bytes(d), y, "");
            T.leaves(-1, "rsa", 2, 0, bytes(n), bytes(e), x, padding + "5a");
            T.leaves(-1, "rsa", 2, 0, bytes(n), bytes(e), x, padding.substring(2));
            T.leaves(-1, "rsa", 2, 0, bytes(n), bytes(e), x, "00" + padding.substring(2));
            T.leaves(-1, "rsa", 2, 0, bytes(n), bytes(e), x, padding.substring(2) + "00");
        }
        T.told("What is too long: -1");
        for (int size = k - 10; size <= k + 1; size++) {
            T.leaves(-1, "rsa", 2, 0, bytes(n), bytes(e), "07".repeat(size), "5a".repeat(Math.max(0, k - 3 - size)));
        }
        T.leaves(-1, "rsa", 2, 0, bytes(n), bytes(e), "07".repeat(8192), "");
        T.told("of another size: -1");
        for (int size : new int[] {0, k - 1, k + 1, 8192}) {
            T.leaves(-1, "rsa", 3, 0, bytes(n), bytes(d), "00".repeat(size), "");
        }
    }

    private static String hash(int h, String x) {
        CryptHouse house = new CryptHouse();
        Check.run(house, "hash", h, 0, x);
        return Check.text(house, Check.TO);
    }

    /** "4 PSS signed with d, more: the salt; 5 verified, x the text, more: salt's size, one byte, then the signature". */
    private static void pss() {
        int length = (n.bitLength() + 6) / 8;
        String x = "616263";
        for (int h = 0; h < 10; h++) {
            int most = length - SIZES[h] - 2;
            T.told("an n too short for the hash (and salt): -1");
            if (most < 0) {
                T.leaves(-1, "rsa", 4, h, bytes(n), bytes(d), x, "");
                T.leaves(-1, "rsa", 5, h, bytes(n), bytes(e), x, "00" + "00".repeat(k));
                continue;
            }
            for (int size : new int[] {0, 1, most - 1, most}) {
                if (size < 0 || size > most) {
                    continue;
                }
                String salt = Check.hex(Examples.some(size, 7));
                String y = T.made(k, "rsa", 4, h, bytes(n), bytes(d), x, salt);
                String told = String.format("%02x", size);
                T.gives(hash(h, x), "rsa", 5, h, bytes(n), bytes(e), x, told + y);
                T.leaves(-3, "rsa", 5, h, bytes(n), bytes(e), x + "00", told + y);
                for (int other = 0; other < 256; other++) {
                    if (other != size) {
                        T.leaves(other > most ? -1 : -3, "rsa", 5, h, bytes(n), bytes(e), x, String.format("%02x", other) + y);
                    }
                }
            }
            T.leaves(-1, "rsa", 4, h, bytes(n), bytes(d), x, "00".repeat(most + 1));
            T.leaves(-1, "rsa", 4, h, bytes(n), bytes(d), x, "00".repeat(8192));
            T.told("of another size: -1");
            for (int size : new int[] {0, 1, k, k + 2, 8192}) {
                T.leaves(-1, "rsa", 5, h, bytes(n), bytes(e), x, "00".repeat(size));
            }
            T.leaves(-3, "rsa", 5, h, bytes(n), bytes(e), x, "00".repeat(k + 1));
        }
    }

    /** "6 PKCS1 v1.5 signed (DigestInfo of h ..), 7 verified, more: the signature"; "an n too short for the .. DigestInfo: -1". */
    private static void signedWithName() {
        String x = "616263";
        for (int h = 0; h < 10; h++) {
            int info = NAMES[h].length() / 2 + SIZES[h];
            T.told("an n too short for the hash (and .. DigestInfo): -1");
            if (k < info + 11) {
                T.leaves(-1, "rsa", 6, h, bytes(n), bytes(d), x, "");
                T.leaves(-1, "rsa", 7, h, bytes(n), bytes(e), x, "00".repeat(k));
                continue;
            }
            String text = "0001" + "ff".repeat(k - 3 - info) + "00" + NAMES[h] + hash(h, x);
            T.gives(power(text, d), "rsa", 6, h, bytes(n), bytes(d), x, "07");
            T.gives(hash(h, x), "rsa", 7, h, bytes(n), bytes(e), x, power(text, d));
            T.leaves(-3, "rsa", 7, h, bytes(n), bytes(e), "", power(text, d));
            T.told("of another size: -1");
            for (int size : new int[] {0, k - 1, k + 1, 8192}) {
                T.leaves(-1, "rsa", 7, h, bytes(n), bytes(e), x, "00".repeat(size));
            }
            T.leaves(-3, "rsa", 7, h, bytes(n), bytes(e), x, "00".repeat(k));
        }
    }

    private static String mask(int h, String seed, int size) {
        StringBuilder all = new StringBuilder();
        for (int i = 0; all.length() < 2 * size; i++) {
            all.append(hash(h, seed + String.format("%08x", i)));
        }
        return all.substring(0, 2 * size);
    }

    private static String mixed(String a, String b) {
        byte[] x = Check.bytes(a);
        byte[] y = Check.bytes(b);
        for (int i = 0; i < x.length; i++) {
            x[i] ^= y[i];
        }
        return Check.hex(x);
    }

    /** What OAEP seals, of a first byte and of what stands behind the label's hash. */
    private static String oaepText(int h, String first, String data) {
        String seed = Check.hex(Examples.some(SIZES[h], 9));
        String masked = mixed(data, mask(h, seed, k - SIZES[h] - 1));
        return first + mixed(seed, mask(h, masked, SIZES[h])) + masked;
    }

    /** "what does not open .. : -3", of OAEP. */
    private static void oaepForms() {
        T.told("what does not open: -3");
        for (int h = 0; h < 10; h++) {
            int rest = k - 2 * SIZES[h] - 1;
            if (rest < 9) {
                continue;
            }
            String label = hash(h, "6c");
            String own = Check.hex(Examples.some(SIZES[h], 9));
            T.gives(power(oaepText(h, "00", label + "00".repeat(rest - 4) + "01616263"), e), "rsa", 0, h, bytes(n), bytes(e), "616263", own + "6c");
            T.gives(power(oaepText(h, "00", label + "01" + "61".repeat(rest - 1)), e), "rsa", 0, h, bytes(n), bytes(e), "61".repeat(rest - 1), own + "6c");
            opens(h, 1, oaepText(h, "00", label + "00".repeat(rest - 1) + "01"), "", "6c");
            opens(h, 1, oaepText(h, "00", label + "00".repeat(rest - 2) + "0100"), "00", "6c");
            opens(h, 1, oaepText(h, "00", label + "01" + "00".repeat(rest - 1)), "00".repeat(rest - 1), "6c");
            opens(h, 1, oaepText(h, "00", label + "0001" + "01".repeat(rest - 2)), "01".repeat(rest - 2), "6c");
            String[] bad = {
                label + "00".repeat(rest), label + "02" + "00".repeat(rest - 1), label + "0002" + "01".repeat(rest - 2),
                label + "00".repeat(rest - 1) + "02", label + "ff".repeat(rest), label + "80" + "01".repeat(rest - 1)
            };
            for (String b : bad) {
                closed(h, 1, oaepText(h, "00", b), "6c");
            }
            closed(h, 1, oaepText(h, "01", label + "01" + "00".repeat(rest - 1)), "6c");
            closed(h, 1, oaepText(h, "80", label + "01" + "00".repeat(rest - 1)), "6c");
            for (int at = 0; at < SIZES[h]; at++) {
                byte[] other = Check.bytes(label);
                other[at] ^= 1;
                closed(h, 1, oaepText(h, "00", Check.hex(other) + "01" + "00".repeat(rest - 1)), "6c");
            }
        }
    }

    private static void opens(int h, int kind, String text, String x, String more) {
        if (new BigInteger(text, 16).compareTo(n) < 0) {
            T.gives(x, "rsa", kind, h, bytes(n), bytes(d), power(text, e), more);
        }
    }

    private static void closed(int h, int kind, String text, String more) {
        if (new BigInteger(text, 16).compareTo(n) < 0) {
            T.leaves(-3, "rsa", kind, h, bytes(n), bytes(d), power(text, e), more);
        }
    }

    /** "what does not open .. : -3", of PKCS1 v1.5: a padding of less than eight bytes, none, no end, another beginning. */
    private static void paddedForms() {
        T.told("what does not open: -3");
        for (int size = 0; size <= k - 3; size++) {
            String text = "0002" + "aa".repeat(size) + "00" + "bb".repeat(k - 3 - size);
            if (size >= 8) {
                opens(0, 3, text, "bb".repeat(k - 3 - size), "");
            } else {
                closed(0, 3, text, "");
            }
        }
        opens(0, 3, "0002" + "aa".repeat(8) + "00".repeat(k - 10), "00".repeat(k - 11), "");
        String[] bad = {
            "0002" + "aa".repeat(k - 2), "0001" + "aa".repeat(20) + "00" + "bb".repeat(k - 23), "0003" + "aa".repeat(20) + "00" + "bb".repeat(k - 23),
            "0000" + "aa".repeat(20) + "00" + "bb".repeat(k - 23), "0102" + "aa".repeat(20) + "00" + "bb".repeat(k - 23),
            "8002" + "aa".repeat(20) + "00" + "bb".repeat(k - 23), "00".repeat(k), "00".repeat(k - 1) + "01"
        };
        for (String b : bad) {
            closed(0, 3, b, "");
        }
    }

    /** What PSS signs, of its parts: the bytes ahead of the salt, the salt, the hash's end and the last byte. */
    private static String pssText(int h, String x, String ahead, String salt, String last, int top) {
        return pssText(h, hash(h, "00".repeat(8) + hash(h, x) + salt), ahead + salt, last, top);
    }

    private static String pssText(int h, String sum, String ahead, String last, int top) {
        int length = (n.bitLength() + 6) / 8;
        byte[] data = Check.bytes(mixed(ahead, mask(h, sum, length - SIZES[h] - 1)));
        int least = 255 >> 8 * length - n.bitLength() + 1;
        data[0] = (byte) (data[0] & least | top);
        return "00".repeat(k - length) + Check.hex(data) + sum + last;
    }

    /** "what does not .. fit: -3", of PSS: bytes ahead of the salt, the 1, the last byte, the bits above. */
    private static void pssForms() {
        T.told("what does not fit: -3");
        for (int bits : new int[] {768, 769, 770, 772, 775}) {
            makeKey(bits);
            int length = (n.bitLength() + 6) / 8;
            for (int h = 0; h < 8; h += 2) {
                int zeros = length - SIZES[h] - 2 - 8;
                String salt = Check.hex(Examples.some(8, 1));
                String good = pssText(h, "61", "00".repeat(zeros) + "01", salt, "bc", 0);
                T.gives(hash(h, "61"), "rsa", 5, h, bytes(n), bytes(e), "61", "08" + power(good, d));
                String[] bad = {
                    pssText(h, "61", "00".repeat(zeros) + "02", salt, "bc", 0), pssText(h, "61", "00".repeat(zeros) + "00", salt, "bc", 0),
                    pssText(h, "61", "00".repeat(zeros - 1) + "0101", salt, "bc", 0), pssText(h, "61", "01" + "00".repeat(zeros - 1) + "01", salt, "bc", 0),
                    pssText(h, "61", "00".repeat(zeros) + "01", salt, "bd", 0), pssText(h, "61", "00".repeat(zeros) + "01", salt, "cc", 0),
                    pssText(h, "62", "00".repeat(zeros) + "01", salt, "bc", 0), "00".repeat(k)
                };
                for (String b : bad) {
                    T.leaves(-3, "rsa", 5, h, bytes(n), bytes(e), "61", "08" + power(b, d));
                }
                // The salt and all else in its place, but for one byte of the hash.
                byte[] sum = Check.bytes(hash(h, "00".repeat(8) + hash(h, "61") + salt));
                for (int at = 0; at < sum.length; at++) {
                    sum[at] ^= 1;
                    String other = pssText(h, Check.hex(sum), "00".repeat(zeros) + "01" + salt, "bc", 0);
                    T.leaves(-3, "rsa", 5, h, bytes(n), bytes(e), "61", "08" + power(other, d));
                    sum[at] ^= 1;
                }
                for (int bit = 0; bit < 8; bit++) {
                    // A bit above those that n has, in the first byte: what is signed is the same number otherwise.
                    String other = pssText(h, "61", "00".repeat(zeros) + "01", salt, "bc", 1 << bit);
                    if (!other.equals(good) && new BigInteger(other, 16).compareTo(n) < 0) {
                        T.leaves(-3, "rsa", 5, h, bytes(n), bytes(e), "61", "08" + power(other, d));
                    }
                }
                if (k > length) {
                    String other = "01" + good.substring(2);
                    if (new BigInteger(other, 16).compareTo(n) < 0) {
                        T.leaves(-3, "rsa", 5, h, bytes(n), bytes(e), "61", "08" + power(other, d));
                    }
                }
            }
        }
        makeKey(768);
    }

    /** "what does not .. fit: -3", of PKCS1 v1.5's signatures: the whole text must be as it is made. */
    private static void namedForms() {
        T.told("what does not fit: -3");
        for (int h = 0; h < 10; h++) {
            String info = NAMES[h] + hash(h, "61");
            int rest = k - 3 - info.length() / 2;
            String good = "0001" + "ff".repeat(rest) + "00" + info;
            T.gives(hash(h, "61"), "rsa", 7, h, bytes(n), bytes(e), "61", power(good, d));
            byte[] text = Check.bytes(good);
            for (int at = 0; at < k; at++) {
                byte[] other = text.clone();
                other[at] ^= at == 0 ? 1 : 4;
                if (new BigInteger(1, other).compareTo(n) < 0) {
                    T.leaves(-3, "rsa", 7, h, bytes(n), bytes(e), "61", power(Check.hex(other), d));
                }
            }
            String early = "0001" + "ff".repeat(8) + "00" + info + "00".repeat(rest - 8);
            T.leaves(-3, "rsa", 7, h, bytes(n), bytes(e), "61", power(early, d));
        }
    }

    /** "or is not below n: -3": a number that is the same modulo n. */
    private static void notBelow() {
        T.told("is not below n: -3");
        for (int bits : new int[] {761, 764}) {
            makeKey(bits);
            String text = "0002" + "5a".repeat(k - 5) + "00" + "6162";
            String y = power(text, e);
            T.gives("6162", "rsa", 3, 0, bytes(n), bytes(d), y, "");
            T.leaves(-3, "rsa", 3, 0, bytes(n), bytes(d), fixed(new BigInteger(y, 16).add(n), k), "");
            T.leaves(-3, "rsa", 3, 0, bytes(n), bytes(d), bytes(n), "");
            T.leaves(-3, "rsa", 3, 0, bytes(n), bytes(d), bytes(n.subtract(ONE)), "");
            String sealed = T.made(k, "rsa", 0, 0, bytes(n), bytes(e), "6162", "07".repeat(20));
            T.gives("6162", "rsa", 1, 0, bytes(n), bytes(d), sealed, "");
            T.leaves(-3, "rsa", 1, 0, bytes(n), bytes(d), fixed(new BigInteger(sealed, 16).add(n), k), "");
            for (int kind = 4; kind < 8; kind += 2) {
                String signed = T.made(k, "rsa", kind, 0, bytes(n), bytes(d), "61", "");
                String ahead = kind == 4 ? "00" : "";
                T.gives(hash(0, "61"), "rsa", kind + 1, 0, bytes(n), bytes(e), "61", ahead + signed);
                String same = fixed(new BigInteger(signed, 16).add(n), k);
                T.leaves(-3, "rsa", kind + 1, 0, bytes(n), bytes(e), "61", ahead + same);
            }
        }
    }

    /** -1 ahead of -3: a number that is not below n, where n, e, a size or the hash may not be. */
    private static void order() {
        makeKey(576);
        T.told("-1 ahead of -3");
        String high = bytes(n);
        for (int kind = 1; kind < 8; kind += 2) {
            String x = kind > 4 ? "61" : high;
            String more = kind == 5 ? "00" + high : kind == 7 ? high : "";
            T.leaves(-3, "rsa", kind, 0, bytes(n), bytes(e), x, more);
            T.leaves(-1, "rsa", kind, 0, bytes(n), "02", x, more);
            T.leaves(-1, "rsa", kind, 0, bytes(n), bytes(n), x, more);
            T.leaves(-1, "rsa", kind, 0, "ff".repeat(63), "03", x, more);
            if (kind != 3) {
                // 72 bytes are too few for SHA-512: OAEP needs 130, PSS (with a salt of 255) and DigestInfo 94.
                String salted = kind == 5 ? "ff" + high : more;
                T.leaves(-1, "rsa", kind, 4, bytes(n), bytes(e), x, salted);
            }
        }
    }

    /** Texts and labels that fill a row. */
    private static void fullRows() {
        makeKey(1024);
        String full = Check.hex(Examples.some(8192, 1));
        T.told("x the text");
        for (int h = 0; h < 10; h++) {
            for (int kind = 4; kind < 8; kind += 2) {
                String y = T.made(k, "rsa", kind, h, bytes(n), bytes(d), full, "");
                T.gives(hash(h, full), "rsa", kind + 1, h, bytes(n), bytes(e), full, (kind == 4 ? "00" : "") + y);
                T.leaves(-3, "rsa", kind + 1, h, bytes(n), bytes(e), full.substring(2), (kind == 4 ? "00" : "") + y);
            }
            if (k >= 2 * SIZES[h] + 2) {
                String label = full.substring(2 * SIZES[h]);
                String y = T.made(k, "rsa", 0, h, bytes(n), bytes(e), "", full);
                T.gives("", "rsa", 1, h, bytes(n), bytes(d), y, label);
                T.leaves(-3, "rsa", 1, h, bytes(n), bytes(d), y, label.substring(2));
                T.leaves(-3, "rsa", 1, h, bytes(n), bytes(d), y, full);
            }
        }
    }
}
