import java.math.BigInteger;
import java.util.ArrayList;
import java.util.List;
import java.util.Random;

/** The boundary cases of promises 22 to 25: shares of rows, checked shares, joint signatures. */
public final class BoundsSharesTest {
    private static final int LEAST = Integer.MIN_VALUE;
    private static final int MOST = Integer.MAX_VALUE;
    private static final BigInteger ZERO = BigInteger.ZERO;
    private static final BigInteger ONE = BigInteger.ONE;
    private static final BigInteger Q = Affine.Q[0];
    private static final BigInteger L = Twisted.L;
    private static final String NONE = "ff".repeat(32);
    private static final String NEUTRAL = Twisted.encoded(Twisted.NEUTRAL);
    private static final Random RANDOM = new Random(71);
    private static final Twin T = new Twin();

    public static void main(String[] args) {
        shareLimits();
        shareEveryone();
        togetherLimits();
        checkedLimits();
        checkedValues();
        fitsLimits();
        nonceSizes();
        signerLimits();
        listLimits();
        pointLimits();
        smallPoints();
        orderLimits();
        jointNeutral();
        manySigners();
        T.end();
        Check.end();
    }

    private static String some(int n) {
        byte[] b = new byte[n];
        RANDOM.nextBytes(b);
        return Check.hex(b);
    }

    private static int product(int a, int b) {
        int r = 0;
        for (int i = 7; i >= 0; i--) {
            r = r << 1 ^ (r > 127 ? 0x11b : 0) ^ ((b >> i & 1) != 0 ? a : 0);
        }
        return r;
    }

    /** "Of a row x of 1 to 255 bytes, t 1 .. 8: share i (1 .. 255)"; "((t - 1) times the size, else -1)". */
    private static void shareLimits() {
        T.told("t 1 .. 8");
        for (int t = -1; t <= 10; t++) {
            if (t >= 1 && t <= 8) {
                T.made(4, "share", t, 1, "010203", "07".repeat(3 * (t - 1)));
                T.told("(t - 1) times the size, else -1");
                for (int n : new int[] {3 * t - 4, 3 * t - 2, 3 * t, 3 * t - 6, 8192}) {
                    if (n >= 0) {
                        T.leaves(-1, "share", t, 1, "010203", "07".repeat(n));
                    }
                }
                T.told("t 1 .. 8");
            } else {
                T.leaves(-1, "share", t, 1, "010203", "07".repeat(Math.max(0, 3 * (t - 1))));
                T.leaves(-1, "share", t, 1, "010203", "");
            }
        }
        T.leaves(-1, "share", LEAST, 1, "010203", "");
        T.leaves(-1, "share", MOST, 1, "010203", "");
        T.told("share i (1 .. 255)");
        for (int i : new int[] {1, 2, 254, 255}) {
            T.gives(String.format("%02x", i) + "010203", "share", 1, i, "010203", "");
        }
        for (int i : new int[] {0, -1, 256, 257, LEAST, MOST}) {
            T.leaves(-1, "share", 1, i, "010203", "");
        }
        T.told("a row x of 1 to 255 bytes");
        for (int n : new int[] {1, 254, 255}) {
            T.made(n + 1, "share", 8, 9, some(n), some(7 * n));
        }
        for (int n : new int[] {0, 256, 257, 1024, 8192}) {
            for (int t = 1; t <= 8; t++) {
                T.leaves(-1, "share", t, 9, "01".repeat(n), "02".repeat(Math.min(8192, (t - 1) * n)));
            }
        }
    }

    /** All 255 shares, by the powers of i; and any t of them are put together. */
    private static void shareEveryone() {
        T.told("the value at i of a polynomial over the field of 256");
        for (int t = 1; t <= 8; t++) {
            String x = some(5);
            String coefficients = some(5 * (t - 1));
            String[] all = new String[256];
            for (int i = 1; i < 256; i++) {
                StringBuilder want = new StringBuilder(String.format("%02x", i));
                for (int j = 0; j < 5; j++) {
                    int value = Check.bytes(x)[j] & 255;
                    int power = i;
                    for (int r = 0; r < t - 1; r++) {
                        value ^= product(Check.bytes(coefficients)[5 * r + j] & 255, power);
                        power = product(power, i);
                    }
                    want.append(String.format("%02x", value));
                }
                all[i] = want.toString();
                T.gives(all[i], "share", t, i, x, coefficients);
            }
            for (int first = 1; first + t < 256; first += 31) {
                StringBuilder row = new StringBuilder();
                for (int k = 0; k < t; k++) {
                    row.append(all[first % 2 == 0 ? first + k : 255 - 30 * k % 255]);
                }
                T.gives(x, "together", t, row.toString());
            }
        }
    }

    /** "t of them, one behind the other in a row, of one size 2 and more (without a bound), the first bytes different and not 0 (else -1)". */
    private static void togetherLimits() {
        T.told("t of them, one behind the other in a row, of one size 2 and more (without a bound)");
        T.gives("aa", "together", 1, "01aa");
        T.gives("aa".repeat(8191), "together", 1, "ff" + "aa".repeat(8191));
        T.gives("aa".repeat(1023), "together", 8, "01" + "aa".repeat(1023) + "02" + "aa".repeat(1023) + "03" + "aa".repeat(1023) + "04"
            + "aa".repeat(1023) + "05" + "aa".repeat(1023) + "06" + "aa".repeat(1023) + "07" + "aa".repeat(1023) + "ff" + "aa".repeat(1023));
        for (int t = 1; t <= 8; t++) {
            for (int n = 0; n <= 3 * t; n++) {
                StringBuilder row = new StringBuilder();
                int size = n / t;
                for (int k = 0; k < n; k++) {
                    row.append(size > 0 && k % size == 0 ? String.format("%02x", 255 - k) : "33");
                }
                if (n % t == 0 && size >= 2) {
                    T.gives("33".repeat(size - 1), "together", t, row.toString());
                } else {
                    T.leaves(-1, "together", t, row.toString());
                }
            }
        }
        T.leaves(-1, "together", 3, "01".repeat(8192));
        for (int t : new int[] {0, -1, 9, 10, LEAST, MOST}) {
            T.leaves(-1, "together", t, "01aa02bb03cc04dd05ee06ff07aa08bb09cc");
            T.leaves(-1, "together", t, "");
        }
        T.told("the first bytes different and not 0 (else -1)");
        T.gives("05", "together", 2, "01050205");
        T.leaves(-1, "together", 2, "01050105");
        T.leaves(-1, "together", 2, "00050105");
        T.leaves(-1, "together", 2, "01050005");
        T.leaves(-1, "together", 1, "0005");
        for (int i = 0; i < 8; i++) {
            for (int k = 0; k < 8; k++) {
                byte[] row = Check.bytes("01050205030504050505060507050805");
                row[2 * i] = i == k ? 0 : row[2 * k];
                T.leaves(-1, "together", 8, row);
            }
        }
    }

    private static String fixed(BigInteger v) {
        return Affine.fixed(v, 32);
    }

    private static String point(BigInteger k) {
        return Affine.shortForm(0, Affine.times(0, k, Affine.G[0]));
    }

    /** "the secret and the t - 1 coefficients (32 bytes each, one row) numbers modulo q (each below q, else -1)"; "i 1 .. 255 .. a row of 1 to 8 numbers". */
    private static void checkedLimits() {
        T.told("a row of 1 to 8 numbers");
        for (int n = 0; n <= 10; n++) {
            for (int i : new int[] {0, 1, 255}) {
                if (n >= 1 && n <= 8) {
                    T.made(i == 0 ? 33 * n : 32, "pledge", i, fixed(ONE).repeat(n));
                } else {
                    T.leaves(-1, "pledge", i, fixed(ONE).repeat(n));
                }
                T.leaves(-1, "pledge", i, fixed(ONE).repeat(n) + "01");
                T.leaves(-1, "pledge", i, fixed(ONE).repeat(n) + "01".repeat(31));
            }
        }
        T.told("a CHECKED share (i 1 .. 255), or (i 0) the PLEDGE");
        for (int i : new int[] {-1, 256, 257, LEAST, MOST}) {
            T.leaves(-1, "pledge", i, fixed(ONE));
        }
        T.told("each below q, else -1; with a secret or coefficient 0 .. -1; for shares 0 is one");
        for (int at = 0; at < 8; at++) {
            for (BigInteger v : new BigInteger[] {ZERO, ONE, Q.subtract(ONE), Q, Q.add(ONE), BigInteger.TWO.pow(256).subtract(ONE)}) {
                String row = fixed(ONE).repeat(at) + fixed(v) + fixed(ONE).repeat(7 - at);
                boolean below = v.compareTo(Q) < 0;
                if (below && v.signum() > 0) {
                    T.made(8 * 33, "pledge", 0, row);
                } else {
                    T.leaves(-1, "pledge", 0, row);
                }
                if (below) {
                    T.made(32, "pledge", 1, row);
                } else {
                    T.leaves(-1, "pledge", 1, row);
                }
            }
        }
    }

    private static void checkedValues() {
        T.told("share i (1 .. 255) the value at i (32 bytes); the PLEDGE the points coefficient times G");
        for (int t = 1; t <= 8; t++) {
            BigInteger[] c = new BigInteger[t];
            StringBuilder row = new StringBuilder();
            StringBuilder pledge = new StringBuilder();
            for (int k = 0; k < t; k++) {
                c[k] = k == 0 ? Q.subtract(ONE) : k == 1 ? ONE : new BigInteger(300, RANDOM).mod(Q.subtract(ONE)).add(ONE);
                row.append(fixed(c[k]));
                pledge.append(point(c[k]));
            }
            T.gives(pledge.toString(), "pledge", 0, row.toString());
            for (int i : new int[] {1, 2, 128, 254, 255}) {
                BigInteger value = ZERO;
                for (int k = t - 1; k >= 0; k--) {
                    value = value.multiply(BigInteger.valueOf(i)).add(c[k]).mod(Q);
                }
                T.gives(fixed(value), "pledge", i, row.toString());
                T.leaves(1, "fits", i, fixed(value), pledge.toString());
                T.leaves(0, "fits", i, fixed(value.add(ONE).mod(Q)), pledge.toString());
                T.leaves(value.signum() == 0 ? 1 : 0, "fits", i, fixed(value.negate().mod(Q)), pledge.toString());
                if (t > 1) {
                    T.leaves(0, "fits", i == 255 ? 254 : i + 1, fixed(value), pledge.toString());
                }
            }
        }
    }

    /** "1, 0 (also sizes, points that are none, numbers not below q; i not 1 .. 255)". */
    private static void fitsLimits() {
        T.told("1, 0 (also sizes, points that are none, numbers not below q; i not 1 .. 255)");
        String one = point(ONE);
        T.leaves(1, "fits", 1, fixed(ONE), one);
        T.leaves(1, "fits", 255, fixed(ONE), one);
        for (int i : new int[] {0, -1, 256, 257, LEAST, MOST}) {
            T.leaves(0, "fits", i, fixed(ONE), one);
        }
        T.leaves(0, "fits", 1, fixed(ONE.add(Q)), one);
        T.leaves(0, "fits", 1, fixed(Q), one);
        T.leaves(0, "fits", 1, "00" + fixed(ONE), one);
        T.leaves(0, "fits", 1, fixed(ONE).substring(2), one);
        T.leaves(0, "fits", 1, "01", one);
        T.leaves(0, "fits", 1, "", one);
        T.leaves(0, "fits", 1, fixed(ONE), "");
        T.leaves(0, "fits", 1, fixed(ZERO), "");
        T.told("33 bytes each");
        String whole = Affine.longForm(0, Affine.G[0]);
        for (String bad : new String[] {whole, "00", one + "00", one.substring(2), "00" + one, whole + "00", one + one.substring(2), "04" + one.substring(2),
            "00" + one.substring(2), "02" + "ff".repeat(32), "03" + fixed(Affine.P[0]), "00".repeat(33), one + "00".repeat(33), "05" + one.substring(2)}) {
            T.leaves(0, "fits", 1, fixed(ONE), bad);
            T.leaves(0, "fits", 1, fixed(ZERO), bad);
        }
        T.told("a row of 1 to 8 numbers");
        // The sum of i^k times the points: with G and -G in turn it is what the last one leaves.
        String minus = point(Q.subtract(ONE));
        for (int n = 1; n <= 8; n++) {
            StringBuilder row = new StringBuilder();
            for (int k = 0; k < n; k++) {
                row.append(k % 2 == 0 ? one : minus);
            }
            T.leaves(1, "fits", 1, fixed(n % 2 == 0 ? ZERO : ONE), row.toString());
            T.leaves(0, "fits", 1, fixed(n % 2 == 0 ? ONE : ZERO), row.toString());
        }
        T.leaves(0, "fits", 1, fixed(BigInteger.TWO), one.repeat(9));
    }

    private static String sum(String name, String... parts) {
        return Check.hex(Twisted.sum("46524f53542d454432353531392d5348413531322d7631" + Check.hex(name.getBytes()) + String.join("", parts)));
    }

    private static BigInteger hashed(String name, String... parts) {
        return Twisted.number(sum(name, parts)).mod(L);
    }

    private static String nonces(String secret, String random) {
        BigInteger d = hashed("nonce", random.substring(0, 64), secret);
        BigInteger e = hashed("nonce", random.substring(64), secret);
        return Twisted.little(d) + Twisted.little(e) + Twisted.encoded(Twisted.times(d, Twisted.BASE))
            + Twisted.encoded(Twisted.times(e, Twisted.BASE));
    }

    /** "NONCES from a secret (32 bytes) and 64 random bytes"; "the secret's 32 bytes as they are". */
    private static void nonceSizes() {
        T.told("a secret (32 bytes) and 64 random bytes");
        for (int n = 0; n <= 130; n++) {
            if (n != 32) {
                T.leaves(-1, "jointNonces", "01".repeat(n), "02".repeat(64));
            }
            if (n != 64) {
                T.leaves(-1, "jointNonces", "01".repeat(32), "02".repeat(n));
            }
        }
        T.told("what is hashed for the nonces: the secret's 32 bytes as they are");
        for (BigInteger v : new BigInteger[] {ZERO, ONE, L.subtract(ONE), L, L.add(ONE), BigInteger.TWO.pow(256).subtract(ONE)}) {
            String random = some(64);
            T.gives(nonces(Twisted.little(v), random), "jointNonces", Twisted.little(v), random);
        }
    }

    /** The factors of all signers of a list, and behind them the joint commitment, encoded. */
    private static List<String> commitment(String key, String list, String x) {
        StringBuilder all = new StringBuilder();
        for (int at = 0; at < list.length(); at += 130) {
            all.append(list, at, at + 2).append("00".repeat(31)).append(list, at + 2, at + 130);
        }
        String prefix = key + sum("msg", x) + sum("com", all.toString());
        BigInteger[] r = Twisted.NEUTRAL;
        List<String> factors = new ArrayList<>();
        for (int at = 0; at < list.length(); at += 130) {
            BigInteger rho = hashed("rho", prefix, list.substring(at, at + 2) + "00".repeat(31));
            factors.add(Twisted.little(rho));
            r = Twisted.plus(r, Twisted.decoded(list.substring(at + 2, at + 66)));
            r = Twisted.plus(r, Twisted.times(rho, Twisted.decoded(list.substring(at + 66, at + 130))));
        }
        factors.add(Twisted.encoded(r));
        return factors;
    }

    private static String share(int i, String secret, String nonces, String key, String list, String x) {
        return share(i, secret, nonces, key, list, x, commitment(key, list, x));
    }

    private static String share(int i, String secret, String nonces, String key, String list, String x, List<String> factors) {
        BigInteger c = Twisted.hashed(factors.get(factors.size() - 1), key, x);
        BigInteger weight = ONE;
        BigInteger rho = ZERO;
        for (int at = 0; at < list.length(); at += 130) {
            int j = Integer.parseInt(list.substring(at, at + 2), 16);
            if (j != i) {
                weight = weight.multiply(BigInteger.valueOf(j)).multiply(BigInteger.valueOf(j - i).modInverse(L)).mod(L);
            } else {
                rho = Twisted.number(factors.get(at / 130));
            }
        }
        BigInteger d = Twisted.number(nonces.substring(0, 64));
        BigInteger e = Twisted.number(nonces.substring(64, 128));
        return Twisted.little(d.add(e.multiply(rho)).add(weight.multiply(Twisted.number(secret)).multiply(c)).mod(L));
    }

    private static String signed(String list, String shares, String key, String x) {
        BigInteger all = ZERO;
        for (int at = 0; at < shares.length(); at += 64) {
            all = all.add(Twisted.number(shares.substring(at, at + 64)));
        }
        return commitment(key, list, x).get(list.length() / 130) + Twisted.little(all.mod(L));
    }

    private static String listOf(int... signers) {
        StringBuilder list = new StringBuilder();
        for (int i : signers) {
            list.append(String.format("%02x", i)).append(nonces(Twisted.little(BigInteger.valueOf(i)), "0102".repeat(32)).substring(128));
        }
        return list.toString();
    }

    private static String someKey() {
        return Twisted.encoded(Twisted.times(new BigInteger(250, RANDOM), Twisted.BASE));
    }

    /** "signer i (1 .. 255, else -1)"; "-1 sizes, order, a signer that is not in the list". */
    private static void signerLimits() {
        String key = someKey();
        String secret = some(32);
        String nonces = nonces(secret, some(64));
        String list = listOf(1, 2, 128, 254, 255);
        T.told("signer i (1 .. 255, else -1)");
        for (int i : new int[] {1, 2, 128, 254, 255}) {
            T.gives(share(i, secret, nonces, key, list, "61"), "jointShare", i, secret, nonces, key, list, "61");
        }
        T.told("a signer that is not in the list");
        for (int i : new int[] {0, -1, 3, 127, 129, 253, 256, 257, 511, -255, LEAST, MOST}) {
            T.leaves(-1, "jointShare", i, secret, nonces, key, list, "61");
        }
        T.told("-1 sizes");
        for (int n : new int[] {0, 1, 31, 33, 64, 127, 129, 160, 8192}) {
            T.leaves(-1, "jointShare", 1, "01".repeat(n), nonces, key, list, "61");
            T.leaves(-1, "jointShare", 1, secret, "01".repeat(n), key, list, "61");
            T.leaves(-1, "jointShare", 1, secret, nonces, "01".repeat(n), list, "61");
            T.leaves(-1, "jointSign", list, "00".repeat(160), "01".repeat(n), "61");
        }
        T.leaves(-1, "jointShare", 1, secret, nonces.substring(0, 128), key, list, "61");
        T.told("all shares (32 bytes each, in its order)");
        for (int n : new int[] {0, 1, 32, 128, 159, 161, 192, 8192}) {
            T.leaves(-1, "jointSign", list, "00".repeat(n), key, "61");
        }
        for (int n : new int[] {0, 1, 8192}) {
            String x = some(n);
            T.gives(share(2, secret, nonces, key, list, x), "jointShare", 2, secret, nonces, key, list, x);
            T.gives(signed(list, "00".repeat(160), key, x), "jointSign", list, "00".repeat(160), key, x);
        }
        T.told("its commitments there are not compared with those behind its nonces");
        String other = nonces.substring(0, 128) + NONE + NEUTRAL;
        T.gives(share(1, secret, nonces, key, list, "61"), "jointShare", 1, secret, other, key, list, "61");
    }

    /** "A LIST: for each signer in rising order its identifier (one byte) and both commitments (65 bytes each)"; "An empty list: -1". */
    private static void listLimits() {
        String key = someKey();
        String secret = some(32);
        String nonces = nonces(secret, some(64));
        T.told("An empty list: -1");
        T.leaves(-1, "jointShare", 1, secret, nonces, key, "", "61");
        T.leaves(-1, "jointSign", "", "", key, "61");
        T.told("(65 bytes each)");
        String one = listOf(1);
        for (int n = 1; n < 65; n++) {
            T.leaves(-1, "jointShare", 1, secret, nonces, key, one.substring(0, 2 * n), "61");
            T.leaves(-1, "jointShare", 1, secret, nonces, key, one + listOf(2).substring(0, 2 * n), "61");
            T.leaves(-1, "jointSign", one.substring(0, 2 * n), "", key, "61");
            T.leaves(-1, "jointSign", one + listOf(2).substring(0, 2 * n), "00".repeat(32), key, "61");
        }
        T.told("for each signer in rising order");
        int[][] bad = {{1, 1}, {2, 1}, {1, 3, 2}, {1, 2, 2}, {255, 1}, {0}, {0, 1}, {1, 0}, {1, 255, 254}, {1, 2, 1}};
        for (int[] b : bad) {
            StringBuilder list = new StringBuilder();
            for (int i : b) {
                list.append(String.format("%02x", i)).append(one.substring(2));
            }
            T.leaves(-1, "jointShare", 1, secret, nonces, key, list.toString(), "61");
            T.leaves(-1, "jointSign", list.toString(), "00".repeat(32 * b.length), key, "61");
        }
    }

    /** "-3 points that are told and are none, or neutral (the joint key, too)"; -1 ahead of -3. */
    private static void pointLimits() {
        String key = someKey();
        String secret = some(32);
        String nonces = nonces(secret, some(64));
        String list = listOf(3, 4, 5);
        String shares = "00".repeat(96);
        T.told("-3 points that are told and are none, or neutral (the joint key, too)");
        String[] bad = {NONE, NEUTRAL, "01" + "00".repeat(30) + "80", "ee" + "ff".repeat(30) + "7f", "ed" + "ff".repeat(30) + "7f", "02" + "00".repeat(31)};
        for (String b : bad) {
            T.leaves(-3, "jointShare", 4, secret, nonces, b, list, "61");
            T.leaves(-3, "jointSign", list, shares, b, "61");
            for (int at = 0; at < 3; at++) {
                for (int which = 0; which < 2; which++) {
                    int from = 130 * at + 2 + 64 * which;
                    String other = list.substring(0, from) + b + list.substring(from + 64);
                    T.leaves(-3, "jointShare", 4, secret, nonces, key, other, "61");
                    T.leaves(-3, "jointSign", other, shares, key, "61");
                    T.leaves(-1, "jointShare", 6, secret, nonces, key, other, "61");
                    T.leaves(-1, "jointShare", 4, secret + "00", nonces, b, other, "61");
                    T.leaves(-1, "jointSign", other, shares + "00", key, "61");
                    T.leaves(-1, "jointSign", other, shares.substring(64) + Twisted.little(L), b, "61");
                }
            }
        }
    }

    /** "that a point is of the prime order is not asked": points of small order, but for the neutral one, are taken. */
    private static void smallPoints() {
        T.told("that a point is of the prime order is not asked");
        String secret = some(32);
        String nonces = nonces(secret, some(64));
        BigInteger[][] small = Twisted.small();
        for (int i = 1; i < 8; i++) {
            String point = Twisted.encoded(small[i]);
            String mixed = Twisted.encoded(Twisted.plus(small[i], Twisted.BASE));
            for (String key : new String[] {someKey(), point, mixed}) {
                String list = "07" + point + mixed + "09" + mixed + point;
                T.gives(share(7, secret, nonces, key, list, "61"), "jointShare", 7, secret, nonces, key, list, "61");
                T.gives(share(9, secret, nonces, key, list, "61"), "jointShare", 9, secret, nonces, key, list, "61");
                String shares = Twisted.little(L.subtract(ONE)) + Twisted.little(BigInteger.TWO);
                T.gives(signed(list, shares, key, "61"), "jointSign", list, shares, key, "61");
            }
        }
    }

    /** "a share that is not below the order"; "Secrets and nonces are taken modulo the order". */
    private static void orderLimits() {
        String key = someKey();
        String list = listOf(3, 4, 5);
        T.told("a share that is not below the order");
        BigInteger[] values = {ZERO, ONE, L.subtract(ONE), L, L.add(ONE), BigInteger.TWO.pow(252), BigInteger.TWO.pow(253), BigInteger.TWO.pow(256).subtract(ONE)};
        for (int at = 0; at < 3; at++) {
            for (BigInteger v : values) {
                String shares = Twisted.little(ONE).repeat(at) + Twisted.little(v) + Twisted.little(L.subtract(ONE)).repeat(2 - at);
                if (v.compareTo(L) < 0) {
                    T.gives(signed(list, shares, key, "61"), "jointSign", list, shares, key, "61");
                } else {
                    T.leaves(-1, "jointSign", list, shares, key, "61");
                }
            }
        }
        T.told("Secrets and nonces are taken modulo the order");
        for (BigInteger v : values) {
            String told = Twisted.little(v);
            String nonces = told + told + "00".repeat(64);
            T.gives(share(5, told, nonces, key, list, "61"), "jointShare", 5, told, nonces, key, list, "61");
            T.gives(share(5, Twisted.little(v.mod(L)), nonces, key, list, "61"), "jointShare", 5, told,
                Twisted.little(v.mod(L)).repeat(2) + "00".repeat(64), key, list, "61");
        }
    }

    /** "the joint commitment that comes of them may be neutral, it is not asked". */
    private static void jointNeutral() {
        T.told("the joint commitment that comes of them may be neutral, it is not asked");
        String key = someKey();
        String secret = some(32);
        String nonces = nonces(secret, some(64));
        String two = Twisted.encoded(Twisted.small()[4]);
        String list = "05" + two + two;
        int found = 0;
        for (int i = 0; i < 20; i++) {
            // A point of order two and so many times itself: neutral where the factor is odd.
            String x = String.format("%02x", i);
            found += commitment(key, list, x).get(1).equals(NEUTRAL) ? 1 : 0;
            T.gives(share(5, secret, nonces, key, list, x), "jointShare", 5, secret, nonces, key, list, x);
            T.gives(signed(list, secret.substring(0, 62) + "00", key, x), "jointSign", list, secret.substring(0, 62) + "00", key, x);
        }
        Check.due("neutral ones", found > 2 && found < 18, true);
    }

    /** As many signers as a row can hold: 126. */
    private static void manySigners() {
        T.told("A LIST: for each signer in rising order");
        int[] signers = new int[126];
        BigInteger secret = new BigInteger(250, RANDOM);
        String key = Twisted.encoded(Twisted.times(secret, Twisted.BASE));
        StringBuilder list = new StringBuilder();
        String[] all = new String[126];
        String[] own = new String[126];
        for (int i = 0; i < 126; i++) {
            signers[i] = 2 * i + 1 + (i > 100 ? 4 : 0);
            own[i] = Twisted.little(secret.add(BigInteger.valueOf(77L * signers[i])));
            all[i] = T.made(128, "jointNonces", own[i], some(64));
            list.append(String.format("%02x", signers[i])).append(all[i].substring(128));
        }
        List<String> factors = commitment(key, list.toString(), "61");
        StringBuilder shares = new StringBuilder();
        for (int i = 0; i < 126; i++) {
            String s = share(signers[i], own[i], all[i], key, list.toString(), "61", factors);
            if (i == 0 || i == 63 || i == 125) {
                T.gives(s, "jointShare", signers[i], own[i], all[i], key, list.toString(), "61");
            }
            shares.append(s);
        }
        String s = T.made(64, "jointSign", list.toString(), shares.toString(), key, "61");
        T.leaves(1, "verify", 3, 0, key, "61", s);
        T.leaves(-1, "jointSign", list.toString(), shares.substring(64), key, "61");
        T.leaves(-1, "jointSign", list.toString(), shares + "00".repeat(32), key, "61");
        T.leaves(-1, "jointSign", list + "ff", shares.toString(), key, "61");
    }
}
