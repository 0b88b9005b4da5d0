import java.math.BigInteger;
import java.util.Random;

/** Promises 13 to 15, 28 and 29: wide numbers, primes, RSA and delays, against the library's BigInteger. */
public final class NumbersTest {
    private static final Random RANDOM = new Random(3);
    private static final CryptHouse H = new CryptHouse();
    private static final BigInteger ONE = BigInteger.ONE;
    private static final BigInteger TWO = BigInteger.TWO;

    public static void main(String[] args) {
        work();
        workSizes();
        roots();
        primes();
        witnesses();
        rsa();
        delays();
        Check.end();
    }

    static String bytes(BigInteger v) {
        if (v.signum() == 0) {
            return "";
        }
        String s = v.toString(16);
        return s.length() % 2 == 0 ? s : "0" + s;
    }

    private static BigInteger some() {
        int[] sizes = {0, 1, 8, 27, 28, 29, 55, 56, 57, 64, 256, 500, 1023, 1024};
        BigInteger v = new BigInteger(sizes[RANDOM.nextInt(sizes.length)], RANDOM);
        return RANDOM.nextInt(6) == 0 && v.bitLength() > 30 ? v.setBit(1000).shiftRight(v.bitLength() / 2) : v;
    }

    private static BigInteger due(int op, BigInteger a, BigInteger b, BigInteger m) {
        boolean none = op >= 5 && op <= 9 && m.signum() == 0;
        if (none || (op == 3 || op == 4) && b.signum() == 0 || op == 1 && a.compareTo(b) < 0) {
            return null;
        }
        switch (op) {
            case 0:
                return a.add(b);
            case 1:
                return a.subtract(b);
            case 2:
                return a.multiply(b);
            case 3:
                return a.divide(b);
            case 4:
                return a.mod(b);
            case 5:
                return a.add(b).mod(m);
            case 6:
                return a.subtract(b).mod(m);
            case 7:
                return a.multiply(b).mod(m);
            case 8:
                return a.modPow(b, m);
            case 9:
                return m.equals(ONE) || !a.gcd(m).equals(ONE) ? null : a.modInverse(m);
            default:
                return a.gcd(b);
        }
    }

    private static void work() {
        for (int i = 0; i < 3000; i++) {
            int op = i % 11;
            BigInteger a = some();
            BigInteger b = some();
            BigInteger m = some();
            BigInteger want = due(op, a, b, m);
            String ahead = i % 5 == 0 ? "000000" : "";
            if (want == null) {
                Check.refused(H, "-3", "work", op, ahead + bytes(a), bytes(b), bytes(m));
            } else {
                Check.gives(H, bytes(want), "work", op, ahead + bytes(a), bytes(b), bytes(m));
            }
        }
    }

    private static void workSizes() {
        String most = "ff".repeat(128);
        String over = "01" + "00".repeat(128);
        for (int op = 0; op < 12; op++) {
            boolean second = op != 9 && op != 11;
            boolean modulus = op >= 5 && op != 10;
            Check.refused(H, "-1", "work", op, over, "01", "07");
            String one = Check.run(H, "work", op, "01", over, "07");
            Check.due("work " + op + " by the second", one.equals("-1"), second);
            one = Check.run(H, "work", op, "01", "01", over);
            Check.due("work " + op + " by the modulus", one.equals("-1"), modulus);
            Check.due("work " + op + " with 0s ahead",
                Check.run(H, "work", op, "00".repeat(200) + "02", "01", "00".repeat(900) + "07").startsWith("-"), false);
        }
        Check.gives(H, "01" + "ff".repeat(127) + "fe", "work", 0, most, most, "");
        Check.due("work", Check.run(H, "work", 2, most, most, ""), "256");
        Check.gives(H, "", "work", 8, "05", "03", "01");
        Check.gives(H, "01", "work", 8, "", "", "07");
        Check.gives(H, "", "work", 8, "", "", "01");
        Check.gives(H, "", "work", 10, "", "", "");
        Check.refused(H, "-3", "work", 9, "01", "", "01");
        Check.refused(H, "-3", "work", 9, "", "", "05");
    }

    private static void roots() {
        BigInteger[] primes = {
            BigInteger.valueOf(3), BigInteger.valueOf(5), BigInteger.valueOf(17), BigInteger.valueOf(65537),
            TWO.pow(255).subtract(BigInteger.valueOf(19)), TWO.pow(224).subtract(TWO.pow(96)).add(ONE),
            TWO.pow(64).subtract(TWO.pow(32)).add(ONE), TWO.pow(521).subtract(ONE)
        };
        for (BigInteger p : primes) {
            for (int i = 0; i < 12; i++) {
                BigInteger r = i == 0 ? ONE : new BigInteger(300, RANDOM).mod(p);
                BigInteger a = r.multiply(r).mod(p);
                Check.gives(H, bytes(r.min(p.subtract(r).mod(p))), "work", 11, bytes(a), "", bytes(p));
                BigInteger b = new BigInteger(300, RANDOM);
                if (b.mod(p).signum() != 0 && !b.modPow(p.shiftRight(1), p).equals(ONE)) {
                    Check.refused(H, "-3", "work", 11, bytes(b), "", bytes(p));
                }
            }
            Check.gives(H, "", "work", 11, bytes(p), "", bytes(p));
            Check.gives(H, "", "work", 11, "", "", bytes(p));
        }
        for (String bad : new String[] {"", "01", "02", "04", "09", "0f"}) {
            Check.refused(H, "-3", "work", 11, "01", "", bad);
            Check.refused(H, "-3", "work", 11, "", "", bad);
        }
        for (int power = 100; power <= 101; power++) {
            BigInteger p = TWO.pow(power).add(ONE);
            for (BigInteger k = BigInteger.valueOf(3); !p.isProbablePrime(60); k = k.add(TWO)) {
                p = k.shiftLeft(power).add(ONE);
            }
            if (power == 100) {
                Check.gives(H, "02", "work", 11, "04", "", bytes(p));
            } else {
                Check.refused(H, "-3", "work", 11, "04", "", bytes(p));
            }
        }
    }

    private static int prime(BigInteger x, int k) {
        int[] bases = {2, 3, 5, 7, 11, 13, 17, 19, 23, 29, 31, 37, 41, 43, 47, 53, 59, 61, 67, 71};
        if (x.compareTo(TWO) < 0) {
            return 0;
        }
        BigInteger less = x.subtract(ONE);
        int e = Math.max(0, less.getLowestSetBit());
        for (int i = 0; i < k; i++) {
            BigInteger base = BigInteger.valueOf(bases[i]);
            BigInteger y = base.modPow(less.shiftRight(e), x);
            boolean passes = base.compareTo(x) >= 0 || y.equals(ONE);
            for (int j = 0; j < e && !passes; j++) {
                passes = y.equals(less);
                y = y.multiply(y).mod(x);
            }
            if (!passes) {
                return 0;
            }
        }
        return 1;
    }

    private static void primes() {
        for (int x = 0; x < 700; x++) {
            for (int k : new int[] {1, 2, 20}) {
                BigInteger v = BigInteger.valueOf(x);
                Check.due("prime " + x, Check.run(H, "prime", bytes(v), k), String.valueOf(prime(v, k)));
            }
        }
        long[] strong = {2047, 3277, 4033, 1373653, 25326001, 3215031751L, 2152302898747L, 3474749660383L, 341550071728321L};
        for (long x : strong) {
            for (int k = 1; k <= 20; k++) {
                BigInteger v = BigInteger.valueOf(x);
                Check.due("prime " + x, Check.run(H, "prime", "0000" + bytes(v), k), String.valueOf(prime(v, k)));
            }
        }
        BigInteger p = TWO.pow(521).subtract(ONE);
        Check.due("prime", Check.run(H, "prime", bytes(p), 20), "1");
        Check.due("prime", Check.run(H, "prime", bytes(p.add(TWO)), 1), String.valueOf(prime(p.add(TWO), 1)));
        for (int k : new int[] {0, 21, -1, Integer.MAX_VALUE}) {
            Check.due("prime by " + k, Check.run(H, "prime", "07", k), "-1");
        }
        Check.due("prime", Check.run(H, "prime", "01" + "00".repeat(128), 5), "-1");
        Check.due("prime", Check.run(H, "prime", "ff".repeat(128), 5), "0");
    }

    private static void witnesses() {
        for (int x = 0; x < 120; x++) {
            for (int q = 0; q < 24; q++) {
                for (int a = 0; a < 4; a++) {
                    BigInteger v = BigInteger.valueOf(x);
                    BigInteger w = BigInteger.valueOf(q);
                    boolean fits = x > 1 && prime(w, 20) == 1 && q * q > x && (x - 1) % q == 0;
                    BigInteger base = BigInteger.valueOf(a);
                    fits = fits && base.modPow(v.subtract(ONE), v).equals(ONE.mod(v))
                        && base.modPow(v.subtract(ONE).divide(w), v).subtract(ONE).gcd(v).equals(ONE);
                    Check.due("witness " + x + " " + q + " " + a, Check.run(H, "witness", bytes(v), bytes(w), bytes(base)),
                        fits ? "1" : "0");
                }
            }
        }
        String over = "01" + "00".repeat(128);
        Check.due("witness", Check.run(H, "witness", over, "03", "02"), "-1");
        Check.due("witness", Check.run(H, "witness", "07", over, "02"), "-1");
        Check.due("witness", Check.run(H, "witness", "", "", over), "-1");
    }

    private static void rsa() {
        for (int bits : new int[] {505, 512, 777, 1024}) {
            BigInteger n;
            BigInteger phi;
            BigInteger e = BigInteger.valueOf(65537);
            do {
                BigInteger p = BigInteger.probablePrime(bits / 2, RANDOM);
                BigInteger q = BigInteger.probablePrime(bits - bits / 2, RANDOM);
                n = p.multiply(q);
                phi = p.subtract(ONE).multiply(q.subtract(ONE));
            } while (n.bitLength() != bits || !phi.gcd(e).equals(ONE));
            keyed(bytes(n), bytes(e), bytes(e.modInverse(phi)), (bits + 7) / 8);
        }
        String n = "c1" + "00".repeat(62) + "01";
        Check.refused(H, "-1", "rsa", 2, 0, "00" + n.substring(2), "03", "00", "01".repeat(60));
        Check.refused(H, "-1", "rsa", 2, 0, n + "00".repeat(65), "03", "00", "01".repeat(60));
        for (String e : new String[] {"", "01", "02", n, n + "00"}) {
            Check.refused(H, "-1", "rsa", 2, 0, n, e, "00", "01".repeat(60));
        }
        Check.due("rsa", Check.run(H, "rsa", 2, 0, "0000" + n, "0003", "00", "01".repeat(60)), "64");
    }

    private static void keyed(String n, String e, String d, int k) {
        String x = "616263";
        String padding = "07".repeat(k - 6);
        Check.due("sealed", Check.run(H, "rsa", 2, 0, n, e, x, padding), String.valueOf(k));
        String c = Check.text(H, Check.TO);
        Check.gives(H, x, "rsa", 3, 9, n, d, c, "");
        Check.refused(H, "-1", "rsa", 2, 0, n, e, x, padding + "01");
        Check.refused(H, "-1", "rsa", 2, 0, n, e, x, padding.substring(2) + "00");
        Check.refused(H, "-1", "rsa", 2, 0, n, e, "00".repeat(k - 10), "07".repeat(7));
        Check.refused(H, "-1", "rsa", 3, 0, n, d, c + "00", "");
        Check.refused(H, "-3", "rsa", 3, 0, n, d, n, "");
        for (int h = 0; h < 10; h++) {
            int size = Integer.parseInt(Check.run(H, "hash", h, 0, x));
            String hash = Check.text(H, Check.TO);
            String seed = "5a".repeat(size);
            String most = "42".repeat(Math.max(0, k - 2 * size - 2));
            if (k < 2 * size + 2) {
                Check.refused(H, "-1", "rsa", 0, h, n, e, "", seed);
                Check.refused(H, "-1", "rsa", 1, h, n, d, "00".repeat(k), "");
            } else {
                Check.due("OAEP", Check.run(H, "rsa", 0, h, n, e, most, seed + "4c"), String.valueOf(k));
                c = Check.text(H, Check.TO);
                Check.gives(H, most, "rsa", 1, h, n, d, c, "4c");
                Check.refused(H, "-3", "rsa", 1, h, n, d, c, "4d");
                Check.refused(H, "-1", "rsa", 1, h, n, d, c.substring(2), "4c");
                Check.refused(H, "-1", "rsa", 0, h, n, e, most + "00", seed + "4c");
                Check.refused(H, "-1", "rsa", 0, h, n, e, "", seed.substring(2));
            }
            signed(n, e, d, k, h, x, hash);
        }
    }

    private static void signed(String n, String e, String d, int k, int h, String x, String hash) {
        int size = hash.length() / 2;
        for (int kind = 4; kind <= 6; kind += 2) {
            String salt = kind == 4 ? "07".repeat(8) : "";
            String ahead = kind == 4 ? "08" : "";
            int least = kind == 4 ? size + 10 : size + (h == 0 ? 26 : 30);
            int bits = new BigInteger(n, 16).bitLength();
            if ((kind == 4 ? (bits + 6) / 8 : k) < least) {
                Check.refused(H, "-1", "rsa", kind, h, n, d, x, salt);
                Check.refused(H, "-1", "rsa", kind + 1, h, n, e, x, ahead + "00".repeat(k));
                continue;
            }
            Check.due("signed", Check.run(H, "rsa", kind, h, n, d, x, salt), String.valueOf(k));
            String s = Check.text(H, Check.TO);
            Check.gives(H, hash, "rsa", kind + 1, h, n, e, x, ahead + s);
            Check.refused(H, "-3", "rsa", kind + 1, h, n, e, x + "00", ahead + s);
            Check.refused(H, "-3", "rsa", kind + 1, h, n, e, x, ahead + n);
            Check.refused(H, "-1", "rsa", kind + 1, h, n, e, x, ahead + s + "00");
            Check.refused(H, "-1", "rsa", kind + 1, h, n, e, x, "");
            if (kind == 4) {
                Check.refused(H, "-3", "rsa", 5, h, n, e, x, "07" + s);
            }
        }
    }

    private static void delays() {
        for (int bits : new int[] {2, 3, 9, 64, 512, 1024}) {
            for (int t : new int[] {1, 2, 255, 300, 2000}) {
                BigInteger n = new BigInteger(bits, RANDOM).setBit(0).setBit(bits - 1);
                BigInteger x = new BigInteger(bits, RANDOM).mod(n);
                if (x.signum() == 0) {
                    x = ONE;
                }
                String proof = proof(x, n, t);
                Check.gives(H, proof, "delay", "00" + bytes(x), bytes(n), t);
                Check.due("checkDelay", Check.run(H, "checkDelay", bytes(x), "00" + bytes(n), t, proof), "1");
                Check.due("checkDelay", Check.run(H, "checkDelay", bytes(x), bytes(n), t, proof + "00"), "0");
                Check.due("checkDelay", Check.run(H, "checkDelay", bytes(x), bytes(n), t, ""), "0");
                String all = "ff".repeat(proof.length() / 2);
                Check.due("checkDelay", Check.run(H, "checkDelay", bytes(x), bytes(n), t, all), "0");
                if (bits > 64) {
                    Check.due("checkDelay", Check.run(H, "checkDelay", bytes(x), bytes(n), t % 2000 + 1, proof), "0");
                }
            }
        }
        String over = "01" + "00".repeat(127) + "01";
        String[][] bad = {{"", "09"}, {"09", "09"}, {"0a", "09"}, {"01", "08"}, {"01", "01"}, {"01", ""}, {"01", over}, {over, "09"}};
        for (String[] b : bad) {
            Check.refused(H, "-1", "delay", b[0], b[1], 5);
            Check.due("checkDelay", Check.run(H, "checkDelay", b[0], b[1], 5, ""), "-1");
        }
        for (int t : new int[] {0, 2001, -1, Integer.MAX_VALUE}) {
            Check.refused(H, "-1", "delay", "02", "09", t);
            Check.due("checkDelay", Check.run(H, "checkDelay", "02", "09", t, ""), "-1");
        }
    }

    private static String wide(BigInteger v, int k) {
        String s = v.toString(16);
        return "0".repeat(2 * k - s.length()) + s;
    }

    private static String proof(BigInteger x, BigInteger n, int t) {
        int k = (n.bitLength() + 7) / 8;
        BigInteger y = x.modPow(TWO.pow(t), n);
        byte[] sum = Check.sha256(Check.bytes(wide(x, k) + wide(y, k) + wide(BigInteger.valueOf(t), 4)));
        BigInteger l = new BigInteger(1, sum).setBit(255).setBit(0);
        while (prime(l, 20) == 0) {
            l = l.add(TWO);
        }
        return wide(y, k) + wide(x.modPow(TWO.pow(t).divide(l), n), k);
    }
}
