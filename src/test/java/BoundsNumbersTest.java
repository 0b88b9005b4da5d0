import java.math.BigInteger;
import java.util.ArrayList;
import java.util.List;
import java.util.Random;

/** The boundary cases of promises 13, 14, 28 and 29: wide numbers at work, primes, witnesses, delays. */
public final class BoundsNumbersTest {
    private static final BigInteger ZERO = BigInteger.ZERO;
    private static final BigInteger ONE = BigInteger.ONE;
    private static final BigInteger TWO = BigInteger.TWO;
    private static final int[] FIRST = {2, 3, 5, 7, 11, 13, 17, 19, 23, 29, 31, 37, 41, 43, 47, 53, 59, 61, 67, 71};
    /** No primes, but PRIME by 20: of three primes 3 modulo 4, of three primes 5 modulo 8, of four primes 3 modulo 4. */
    private static final BigInteger[] TAKEN = {
        new BigInteger("1012015799533034182976373695935497170402759110097667572944073141124444571396287996061526993195689413294353563"),
        new BigInteger("499855898948125891047387881542300728597598210703053792372040585209932810995381521847813744317126362832148573"),
        new BigInteger("124362180094145558718327717848574016641680179282179512223696687768816782456849929898368304283233593389354352878"
            + "7918212152214503682514856614744873921")
    };
    /** No prime, but PRIME by 19. */
    private static final BigInteger NEARLY = new BigInteger("1543267864443420616877677640751301");
    private static final Twin T = new Twin();
    private static final CryptHouse H = new CryptHouse();

    public static void main(String[] args) {
        sizes();
        refusals();
        small();
        wide();
        divisions();
        roots();
        takenRoots();
        primesByBases();
        primeLimits();
        witnesses();
        delayLimits();
        delays();
        delayForgeries();
        T.end();
        Check.end();
    }

    private static String bytes(BigInteger v) {
        return NumbersTest.bytes(v);
    }

    private static String bytes(long v) {
        return bytes(BigInteger.valueOf(v));
    }

    /** "NUMBERS have at most 128 bytes (without 0s ahead; else -1), m too." */
    private static void sizes() {
        T.told("NUMBERS have at most 128 bytes (without 0s ahead; else -1), m too");
        String most = "ff".repeat(128);
        String over = "01" + "00".repeat(128);
        String ahead = "00".repeat(8064) + most;
        for (int op = 0; op < 12; op++) {
            boolean second = op != 9 && op != 11;
            boolean modulus = op >= 5 && op != 10;
            for (String wrong : new String[] {over, "00".repeat(8063) + over, "ff".repeat(8192)}) {
                T.leaves(-1, "work", op, wrong, "01", "07");
                if (second) {
                    T.leaves(-1, "work", op, "02", wrong, "07");
                }
                if (modulus) {
                    T.leaves(-1, "work", op, "02", "01", wrong);
                }
                T.told("m is looked at by 5 to 9 and 11 alone; b not by 9, 11");
                T.gives(expected(op, TWO, ONE, BigInteger.valueOf(7)), "work", op, "02",
                    second ? "01" : wrong, modulus ? "07" : wrong);
            }
            String[] rows = {most, ahead};
            for (String row : rows) {
                BigInteger v = new BigInteger(most, 16);
                String want = expected(op, v, v, v);
                if (want == null) {
                    T.leaves(-3, "work", op, row, row, row);
                } else {
                    T.gives(want, "work", op, row, row, row);
                }
            }
            T.told("one that comes about has the fewest (0: none)");
            T.gives(expected(op, TWO, ONE, BigInteger.valueOf(7)), "work", op, "00".repeat(8191) + "02", "0001", "00000007");
        }
    }

    /** The steps of the square root as the document tells them; nothing where it is refused. */
    private static BigInteger root(BigInteger told, BigInteger m) {
        if (m.equals(TWO) || m.signum() > 0 && m.subtract(ONE).mod(TWO.pow(101)).signum() == 0 || !prime(m, 20)) {
            return null;
        }
        BigInteger a = told.mod(m);
        BigInteger half = m.subtract(ONE).divide(TWO);
        if (a.signum() == 0) {
            return ZERO;
        }
        if (!a.modPow(half, m).equals(ONE)) {
            return null;
        }
        int e = m.subtract(ONE).getLowestSetBit();
        BigInteger s = m.subtract(ONE).shiftRight(e);
        BigInteger r = a.modPow(s.add(ONE).divide(TWO), m);
        BigInteger t = a.modPow(s, m);
        BigInteger c = null;
        for (int z = 2; z <= 1000 && c == null && !t.equals(ONE); z++) {
            if (!BigInteger.valueOf(z).modPow(half, m).equals(ONE)) {
                c = BigInteger.valueOf(z).modPow(s, m);
            }
        }
        while (!t.equals(ONE)) {
            int k = 0;
            for (BigInteger u = t; !u.equals(ONE) && k < e; k++) {
                u = u.multiply(u).mod(m);
            }
            if (k >= e || c == null) {
                return null;
            }
            BigInteger b = c.modPow(TWO.pow(e - k - 1), m);
            r = r.multiply(b).mod(m);
            c = b.multiply(b).mod(m);
            t = t.multiply(c).mod(m);
            e = k;
        }
        return r.min(m.subtract(r));
    }

    /** What is due, as bytes; nothing where it is -3. */
    private static String expected(int op, BigInteger a, BigInteger b, BigInteger m) {
        BigInteger v = null;
        boolean zero = m.signum() == 0;
        switch (op) {
            case 0:
                v = a.add(b);
                break;
            case 1:
                v = a.compareTo(b) < 0 ? null : a.subtract(b);
                break;
            case 2:
                v = a.multiply(b);
                break;
            case 3:
                v = b.signum() == 0 ? null : a.divide(b);
                break;
            case 4:
                v = b.signum() == 0 ? null : a.mod(b);
                break;
            case 5:
                v = zero ? null : a.add(b).mod(m);
                break;
            case 6:
                v = zero ? null : a.subtract(b).mod(m);
                break;
            case 7:
                v = zero ? null : a.multiply(b).mod(m);
                break;
            case 8:
                v = zero ? null : a.modPow(b, m);
                break;
            case 9:
                v = m.compareTo(ONE) <= 0 || !a.gcd(m).equals(ONE) ? null : a.modInverse(m);
                break;
            case 10:
                v = a.gcd(b);
                break;
            default:
                v = root(a, m);
                break;
        }
        return v == null ? null : bytes(v);
    }

    /** "-3 below 0"; "-3 by 0"; "-3 if m is 0; 0 for m 1"; "-3 if there is none, m is 0 or 1"; "0 of 0s"; -1 ahead of -3. */
    private static void refusals() {
        String over = "01" + "00".repeat(128);
        T.told("-3 below 0");
        T.leaves(-3, "work", 1, "", "01", "");
        T.leaves(-3, "work", 1, "01", "02", "");
        T.leaves(-3, "work", 1, "ff".repeat(127) + "fe", "ff".repeat(128), "");
        T.gives("", "work", 1, "ff".repeat(128), "ff".repeat(128), "");
        T.gives("01", "work", 1, "ff".repeat(128), "ff".repeat(127) + "fe", "");
        T.told("-3 by 0");
        for (int op = 3; op < 5; op++) {
            for (String zero : new String[] {"", "00", "00".repeat(8192)}) {
                T.leaves(-3, "work", op, "05", zero, "07");
                T.leaves(-3, "work", op, "", zero, "07");
                T.leaves(-1, "work", op, over, zero, "07");
            }
        }
        T.told("-3 if m is 0; 0 for m 1");
        for (int op = 5; op < 9; op++) {
            for (String zero : new String[] {"", "00", "00".repeat(8192)}) {
                T.leaves(-3, "work", op, "05", "03", zero);
                T.leaves(-1, "work", op, over, "03", zero);
                T.leaves(-1, "work", op, "05", over, zero);
            }
            for (String a : new String[] {"", "01", "ff".repeat(128)}) {
                T.gives("", "work", op, a, "03", "01");
                T.gives("", "work", op, "03", a, "0001");
            }
        }
        T.told("-3 if there is none, m is 0 or 1");
        for (String m : new String[] {"", "00", "01", "0001"}) {
            for (String a : new String[] {"", "01", "05"}) {
                T.leaves(-3, "work", 9, a, "", m);
            }
            T.leaves(-1, "work", 9, over, "", m);
        }
        T.leaves(-3, "work", 9, "", "", "07");
        T.leaves(-3, "work", 9, "0e", "", "07");
        T.leaves(-3, "work", 9, "06", "", "09");
        T.gives("01", "work", 9, "01", "", "02");
        T.told("0 of 0s");
        T.gives("", "work", 10, "", "0000", "");
        T.gives("05", "work", 10, "05", "", "");
        T.gives("05", "work", 10, "", "05", "");
        T.told("-3 if m is 2, .. or m not PRIME by 20");
        for (String m : new String[] {"", "00", "01", "02", "04", "06", "09", "0f", "19", "ff".repeat(128)}) {
            for (String a : new String[] {"", "01", "04", "09"}) {
                T.leaves(-3, "work", 11, a, "", m);
            }
            T.leaves(-1, "work", 11, over, "", m);
        }
        T.told("an op that there is none of");
        for (int op : new int[] {-1, 12, Integer.MIN_VALUE, Integer.MAX_VALUE}) {
            T.thrown("work", op, over, over, over);
        }
    }

    /** All small numbers in all ops: sums that reach the modulus, powers 0, moduli 0, 1 and 2. */
    private static void small() {
        for (int op = 0; op < 12; op++) {
            for (int a = 0; a < 14; a++) {
                for (int b = 0; b < (op == 9 || op == 11 ? 1 : 14); b++) {
                    for (int m = 0; m < (op < 5 || op == 10 ? 1 : 20); m++) {
                        one(op, BigInteger.valueOf(a), BigInteger.valueOf(b), BigInteger.valueOf(m));
                    }
                }
            }
        }
    }

    private static void one(int op, BigInteger a, BigInteger b, BigInteger m) {
        String want = expected(op, a, b, m);
        if (want == null) {
            Check.refused(H, "-3", "work", op, bytes(a), bytes(b), bytes(m));
        } else {
            Check.gives(H, want, "work", op, bytes(a), bytes(b), bytes(m));
        }
    }

    /** Numbers about the powers of two, up to the greatest that may be, and moduli that sums and products just reach. */
    private static void wide() {
        List<BigInteger> some = new ArrayList<>();
        for (int bits : new int[] {27, 28, 29, 32, 55, 56, 57, 64, 84, 511, 512, 513, 532, 1007, 1008, 1009, 1023, 1024}) {
            for (int v = -2; v <= 2; v++) {
                BigInteger x = TWO.pow(bits).add(BigInteger.valueOf(v));
                if (x.bitLength() <= 1024) {
                    some.add(x);
                }
            }
        }
        Random random = new Random(41);
        for (int i = 0; i < 6000; i++) {
            int op = i % 11;
            BigInteger a = some.get(random.nextInt(some.size()));
            BigInteger b = some.get(random.nextInt(some.size()));
            BigInteger m = some.get(random.nextInt(some.size()));
            one(op, a, b, m);
            BigInteger sum = a.add(b);
            if (op >= 5 && op < 9 && sum.add(ONE).bitLength() <= 1024) {
                one(op, a, b, sum);
                one(op, a, sum.subtract(a), a);
                one(op, a, b, sum.add(ONE));
                one(op, a, b, sum.subtract(ONE));
            }
        }
    }

    /** Numbers of extreme digits, for which a digit of a quotient is guessed too great, once or twice. */
    private static void divisions() {
        long[] digits = {0, 1, 2, (1 << 27) - 1, 1 << 27, (1 << 27) + 1, (1 << 28) - 2, (1 << 28) - 1};
        int[] ops = {3, 4, 7, 8, 9, 10};
        Random random = new Random(44);
        for (int i = 0; i < 25000; i++) {
            BigInteger[] v = {ZERO, ZERO, ZERO};
            for (int k = 0; k < 3; k++) {
                int many = k == 0 ? 1 + random.nextInt(i % 8 == 0 ? 36 : 5) : 1 + random.nextInt(i % 8 == 0 ? 18 : 3);
                for (int d = 0; d < many; d++) {
                    v[k] = v[k].shiftLeft(28).add(BigInteger.valueOf(digits[random.nextInt(digits.length)]));
                }
                // The digits' ends may lie anywhere in the number.
                v[k] = i % 3 == 0 ? v[k].shiftRight(random.nextInt(28)) : v[k];
            }
            int op = ops[random.nextInt(ops.length)];
            BigInteger b = op == 8 ? v[1].mod(BigInteger.valueOf(1000)) : v[1];
            one(op, v[0], b, v[2]);
            // A product and a number less than the divisor: all but the rest divides.
            BigInteger u = v[1].multiply(v[2]).add(v[1].signum() == 0 ? ZERO : v[0].mod(v[1]));
            if (u.bitLength() <= 1024) {
                one(3, u, v[1], ZERO);
                one(4, u.subtract(ONE).max(ZERO), v[1], ZERO);
            }
        }
    }

    /** "the lesser of r and m - r": of all numbers modulo small primes and of some modulo such with many halves. */
    private static void roots() {
        for (int m = 3; m < 120; m += 2) {
            for (int a = 0; a <= m + 1; a++) {
                one(11, BigInteger.valueOf(a), ZERO, BigInteger.valueOf(m));
            }
        }
        Random random = new Random(42);
        for (long m : new long[] {257, 3329, 12289, 40961, 65537, 8380417, 998244353L, 1004535809L}) {
            for (int i = 0; i < 40; i++) {
                one(11, BigInteger.valueOf(random.nextLong() & Long.MAX_VALUE), ZERO, BigInteger.valueOf(m));
            }
        }
        T.told("m - 1 is a multiple of 2^101");
        for (int power = 98; power < 104; power++) {
            BigInteger p = TWO.pow(power).add(ONE);
            for (BigInteger k = BigInteger.valueOf(3); !p.isProbablePrime(60); k = k.add(TWO)) {
                p = k.shiftLeft(power).add(ONE);
            }
            for (int a = 0; a < 12; a++) {
                one(11, BigInteger.valueOf(a * a), ZERO, p);
                one(11, BigInteger.valueOf(a), ZERO, p);
            }
            if (power > 100) {
                T.leaves(-3, "work", 11, "04", "", bytes(p));
                T.leaves(-3, "work", 11, "", "", bytes(p));
            } else {
                T.gives("02", "work", 11, "04", "", bytes(p));
                T.gives("", "work", 11, "", "", bytes(p));
            }
        }
        BigInteger p = TWO.pow(1024).subtract(BigInteger.valueOf(105));
        Check.due("the greatest prime", p.isProbablePrime(50), true);
        for (int a = 0; a < 8; a++) {
            one(11, p.subtract(BigInteger.valueOf(a)), ZERO, p);
        }
    }

    /** "m not PRIME by 20; what passes that is taken for a prime"; "-3 without one"; "-3 if none below e is". */
    private static void takenRoots() {
        int[] done = new int[3];
        int[] refused = new int[3];
        Random random = new Random(43);
        for (int i = 0; i < TAKEN.length; i++) {
            // Looking for a z that there is none of takes long.
            int step = i == 2 ? 9 : 1;
            for (int k = 0; k < 120; k += step) {
                BigInteger a = k < 40 ? BigInteger.valueOf(k) : new BigInteger(300, random);
                a = k >= 60 ? a.multiply(a).mod(TAKEN[i]) : a;
                one(11, a, ZERO, TAKEN[i]);
                if (root(a, TAKEN[i]) == null) {
                    refused[i]++;
                } else {
                    done[i]++;
                }
            }
            Check.due("some are done", done[i] > 2, true);
            Check.due("some are not", refused[i] > 2, true);
        }
        T.told("m not PRIME by 20");
        T.leaves(-3, "work", 11, "04", "", bytes(NEARLY));
        T.leaves(-3, "work", 11, "", "", bytes(NEARLY));
        // Of the last one all powers (m - 1) / 2 of 2 .. 1000 are 1: there is no z.
        T.told("-3 without one");
        for (int z = 2; z <= 1000; z++) {
            boolean one = BigInteger.valueOf(z).modPow(TAKEN[2].subtract(ONE).shiftRight(1), TAKEN[2]).equals(ONE);
            Check.due("no z", one, true);
        }
        int e = TAKEN[2].subtract(ONE).getLowestSetBit();
        for (int a = 2; a < 6; a++) {
            BigInteger t = BigInteger.valueOf(a).modPow(TAKEN[2].subtract(ONE).shiftRight(e), TAKEN[2]);
            if (!t.equals(ONE)) {
                T.leaves(-3, "work", 11, bytes(a), "", bytes(TAKEN[2]));
            }
        }
    }

    private static boolean prime(BigInteger x, int k) {
        if (x.compareTo(TWO) < 0) {
            return false;
        }
        BigInteger less = x.subtract(ONE);
        int e = less.getLowestSetBit();
        for (int i = 0; i < k && BigInteger.valueOf(FIRST[i]).compareTo(x) < 0; i++) {
            BigInteger y = BigInteger.valueOf(FIRST[i]).modPow(less.shiftRight(e), x);
            boolean passes = y.equals(ONE);
            for (int j = 0; j < e && !passes; j++) {
                passes = y.equals(less);
                y = y.multiply(y).mod(x);
            }
            if (!passes) {
                return false;
            }
        }
        return true;
    }

    private static void isPrime(BigInteger x, int k, boolean want) {
        T.leaves(want ? 1 : 0, "prime", bytes(x), k);
    }

    /** "PRIME by k: 2 and greater, and for the first k primes p = 2, 3, 5, .. that are below it". */
    private static void primesByBases() {
        T.told("2 and greater");
        isPrime(ZERO, 20, false);
        isPrime(ONE, 20, false);
        for (int k = 1; k <= 20; k++) {
            isPrime(TWO, k, true);
        }
        T.told("that are below it");
        for (int x = 0; x < 90; x++) {
            for (int k = 1; k <= 20; k++) {
                isPrime(BigInteger.valueOf(x), k, prime(BigInteger.valueOf(x), k));
            }
        }
        T.told("the first k primes p");
        // The least numbers that pass so many bases and fail the next one.
        String[] least = {
            "2047", "1373653", "25326001", "3215031751", "2152302898747", "3474749660383", "341550071728321", "341550071728321",
            "3825123056546413051", "3825123056546413051", "3825123056546413051", "318665857834031151167461", "3317044064679887385961981",
            "6003094289670105800312596501", "59276361075595573263446330101", "564132928021909221014087501701",
            "564132928021909221014087501701"
        };
        for (int k = 1; k <= least.length; k++) {
            BigInteger x = new BigInteger(least[k - 1]);
            isPrime(x, k, true);
            isPrime(x, 20, false);
            boolean last = k == least.length || !least[k].equals(least[k - 1]);
            isPrime(x, k + 1, prime(x, k + 1));
            Check.due("the next one fails", !last || !prime(x, Math.min(20, k + 1)) || k == 14 || k == 15, true);
        }
        isPrime(NEARLY, 19, true);
        isPrime(NEARLY, 20, false);
        for (BigInteger x : TAKEN) {
            for (int k = 1; k <= 20; k++) {
                isPrime(x, k, true);
            }
            isPrime(x.add(TWO), 20, prime(x.add(TWO), 20));
        }
    }

    /** "-1 when k is not 1 .. 20, or x no NUMBER." */
    private static void primeLimits() {
        T.told("-1 when k is not 1 .. 20, or x no NUMBER");
        for (int k : new int[] {0, -1, 21, Integer.MIN_VALUE, Integer.MAX_VALUE}) {
            T.leaves(-1, "prime", "07", k);
            T.leaves(-1, "prime", "", k);
        }
        String over = "01" + "00".repeat(127) + "01";
        T.leaves(-1, "prime", over, 1);
        T.leaves(-1, "prime", over, 20);
        T.leaves(-1, "prime", "ff".repeat(8192), 1);
        BigInteger most = TWO.pow(1024).subtract(BigInteger.valueOf(105));
        isPrime(most, 1, true);
        isPrime(most, 20, true);
        isPrime(TWO.pow(1024).subtract(ONE), 1, false);
        T.leaves(1, "prime", "00".repeat(8064) + bytes(most), 20);
        T.leaves(1, "prime", "00".repeat(8191) + "47", 20);
    }

    private static boolean witness(BigInteger x, BigInteger q, BigInteger a) {
        return x.compareTo(ONE) > 0 && prime(q, 20) && q.multiply(q).compareTo(x) > 0
            && x.subtract(ONE).mod(q).signum() == 0 && a.modPow(x.subtract(ONE), x).equals(ONE)
            && a.modPow(x.subtract(ONE).divide(q), x).subtract(ONE).gcd(x).equals(ONE);
    }

    /** "x above 1, a factor q, a base a: q is PRIME by 20, q * q > x, q divides x - 1, ..": 1, 0; "-1 (first)". */
    private static void witnesses() {
        T.told("-1 (first) when one of them is no NUMBER");
        String over = "01" + "00".repeat(128);
        for (String other : new String[] {"", "01", "07", "ff".repeat(128)}) {
            T.leaves(-1, "witness", over, other, other);
            T.leaves(-1, "witness", other, over, other);
            T.leaves(-1, "witness", other, other, over);
        }
        T.told("x above 1 .. q * q > x, q divides x - 1");
        for (int x = 0; x < 60; x++) {
            for (int q = 0; q < 60; q++) {
                for (int a = 0; a < 6; a++) {
                    boolean due = witness(BigInteger.valueOf(x), BigInteger.valueOf(q), BigInteger.valueOf(a));
                    Check.due("witness " + x + " " + q + " " + a,
                        Check.run(H, "witness", bytes(x), "0000" + bytes(q), bytes(a)), due ? "1" : "0");
                }
            }
        }
        T.told("q is PRIME by 20");
        // Primes x = q * r + 1 for a q that is PRIME by 20, by 19, and a q whose square is very wide.
        BigInteger far = TWO.pow(600);
        while (!far.isProbablePrime(40)) {
            far = far.add(ONE);
        }
        BigInteger[] factors = {TAKEN[0], TAKEN[1], TAKEN[2], NEARLY, far, BigInteger.valueOf(1000003)};
        for (BigInteger q : factors) {
            for (int i = 0; i < 2; i++) {
                BigInteger r = i == 0 ? TWO : TWO.pow(q.bitLength() * 2 / 3);
                while (!q.multiply(r).add(ONE).isProbablePrime(40)) {
                    r = r.add(TWO);
                }
                BigInteger x = q.multiply(r).add(ONE);
                for (int a = 2; a < 5; a++) {
                    boolean due = witness(x, q, BigInteger.valueOf(a));
                    T.leaves(due ? 1 : 0, "witness", bytes(x), bytes(q), bytes(a));
                    T.leaves(0, "witness", bytes(x.add(TWO)), bytes(q), bytes(a));
                    T.leaves(0, "witness", bytes(x), bytes(q.add(TWO)), bytes(a));
                }
            }
        }
    }

    /** "odd, at least 3, NUMBER, x below n, not 0; t 1 .. 2000; else -1". */
    private static void delayLimits() {
        T.told("odd, at least 3, NUMBER, x below n, not 0; t 1 .. 2000; else -1");
        String over = "01" + "00".repeat(127) + "01";
        String most = "ff".repeat(128);
        String[][] bad = {
            {"01", ""}, {"01", "00"}, {"", "01"}, {"01", "01"}, {"01", "02"}, {"01", "04"}, {"01", "fe"}, {"", "03"}, {"00", "03"},
            {"03", "03"}, {"04", "03"}, {"ff", "03"}, {"05", over}, {over, "05"}, {over, over}, {"05", "ff".repeat(127) + "fe"},
            {most, most}, {"01" + "00".repeat(128), most}
        };
        for (String[] b : bad) {
            T.leaves(-1, "delay", b[0], b[1], 5);
            T.leaves(-1, "checkDelay", b[0], b[1], 5, "");
            T.leaves(-1, "checkDelay", b[0], b[1], 5, "0101");
        }
        for (int t : new int[] {0, -1, 2001, Integer.MIN_VALUE, Integer.MAX_VALUE}) {
            T.leaves(-1, "delay", "02", "09", t);
            T.leaves(-1, "checkDelay", "02", "09", t, "0101");
        }
        delayed(ONE, BigInteger.valueOf(3), 1);
        delayed(TWO, BigInteger.valueOf(3), 1);
        delayed(TWO, BigInteger.valueOf(3), 2000);
        BigInteger n = new BigInteger(most, 16);
        delayed(n.subtract(ONE), n, 1);
        delayed(n.subtract(TWO), n, 2000);
        delayed(ONE, n, 2000);
        T.gives(delayed(TWO, BigInteger.valueOf(9), 7), "delay", "00".repeat(8191) + "02", "00".repeat(8000) + "09", 7);
    }

    private static String fixed(BigInteger v, int k) {
        String s = v.toString(16);
        return "0".repeat(2 * k - s.length()) + s;
    }

    private static BigInteger chosen(BigInteger x, BigInteger y, BigInteger n, int t) {
        int k = (n.bitLength() + 7) / 8;
        byte[] sum = Check.sha256(Check.bytes(fixed(x, k) + fixed(y, k) + String.format("%08x", t)));
        sum[0] |= 128;
        sum[31] |= 1;
        BigInteger l = new BigInteger(1, sum);
        while (!prime(l, 20)) {
            l = l.add(ONE);
        }
        return l;
    }

    private static BigInteger quotient(BigInteger x, BigInteger l, BigInteger n, int t) {
        return x.modPow(TWO.pow(t).divide(l), n);
    }

    /** What a delay is, as its proof; it is asked for and checked. */
    private static String delayed(BigInteger x, BigInteger n, int t) {
        int k = (n.bitLength() + 7) / 8;
        BigInteger y = x.modPow(TWO.pow(t), n);
        String proof = fixed(y, k) + fixed(quotient(x, chosen(x, y, n, t), n, t), k);
        T.gives(proof, "delay", bytes(x), bytes(n), t);
        T.leaves(1, "checkDelay", bytes(x), bytes(n), t, proof);
        T.leaves(0, "checkDelay", bytes(x), bytes(n), t, proof + "00");
        T.leaves(0, "checkDelay", bytes(x), bytes(n), t, proof.substring(2));
        T.leaves(0, "checkDelay", bytes(x), bytes(n), t, "");
        T.leaves(0, "checkDelay", bytes(x), bytes(n), t, "00" + fixed(y, k) + "00" + proof.substring(2 * k));
        return proof;
    }

    private static void delays() {
        T.told("y = x to the 2^t .. pi = x to the 2^t / l, rounded down");
        for (int n = 3; n < 22; n += 2) {
            for (int x = 1; x < n; x++) {
                delayed(BigInteger.valueOf(x), BigInteger.valueOf(n), 1 + (n * x) % 9);
                delayed(BigInteger.valueOf(x), BigInteger.valueOf(n), 254 + n + x);
            }
        }
        // As many bytes as the number n has: about the ends of a byte.
        for (long n : new long[] {127, 129, 253, 255, 257, 65535, 65537, (1L << 56) - 5, (1L << 56) + 1}) {
            for (int t : new int[] {1, 255, 256, 257, 511, 600}) {
                delayed(BigInteger.valueOf(n - 2), BigInteger.valueOf(n), t);
            }
        }
    }

    /** "It fits if pi^l * x^(2^t modulo l) is y, y and pi below n." */
    private static void delayForgeries() {
        T.told("y and pi below n");
        int tried = 0;
        for (int t : new int[] {1, 5, 255, 256, 300, 777}) {
            for (int x = 1; x < 15; x++) {
                BigInteger n = BigInteger.valueOf(15);
                BigInteger v = BigInteger.valueOf(x);
                BigInteger y = v.modPow(TWO.pow(t), n);
                BigInteger pi = quotient(v, chosen(v, y, n, t), n, t);
                T.leaves(1, "checkDelay", bytes(v), bytes(n), t, fixed(y, 1) + fixed(pi, 1));
                for (int more = 15; more < 240; more += 45) {
                    BigInteger high = BigInteger.valueOf(more);
                    // A y or a pi that is the same modulo n, with the l that follows from it.
                    T.leaves(0, "checkDelay", bytes(v), bytes(n), t, fixed(y, 1) + fixed(pi.add(high), 1));
                    BigInteger other = y.add(high);
                    BigInteger same = quotient(v, chosen(v, other, n, t), n, t);
                    T.leaves(0, "checkDelay", bytes(v), bytes(n), t, fixed(other, 1) + fixed(same, 1));
                    T.leaves(0, "checkDelay", bytes(v), bytes(n), t, fixed(other, 1) + fixed(same.add(n), 1));
                    tried++;
                }
                // Another y with a pi that fits it: the power is not y.
                BigInteger less = y.add(ONE).mod(n);
                T.leaves(0, "checkDelay", bytes(v), bytes(n), t, fixed(less, 1) + fixed(quotient(v, chosen(v, less, n, t), n, t), 1));
            }
        }
        // y and pi that are n itself, where 0 would be right.
        BigInteger nine = BigInteger.valueOf(9);
        BigInteger three = BigInteger.valueOf(3);
        for (int t : new int[] {400, 401, 1999, 2000}) {
            T.leaves(1, "checkDelay", "03", "09", t, "0000");
            T.leaves(0, "checkDelay", "03", "09", t, "0009");
            T.leaves(0, "checkDelay", "03", "09", t, "0900");
            T.leaves(0, "checkDelay", "03", "09", t, "0909");
            Check.due("it is 0", quotient(three, chosen(three, nine, nine, t), nine, t).signum(), 0);
        }
        Check.due("tried", tried > 100, true);
    }
}
