import java.math.BigInteger;
import java.util.Random;

/** The boundary cases of promises 15 to 18: points in all their forms, scalars, agreements, signatures, reused nonces. */
public final class BoundsCurvesTest {
    private static final BigInteger ZERO = BigInteger.ZERO;
    private static final BigInteger ONE = BigInteger.ONE;
    private static final BigInteger TWO = BigInteger.TWO;
    /** Of each curve: a small x, a small y, and the three x that it is the y of. */
    private static final int[] SMALL_X = {0, 0, 1};
    private static final int[] SMALL_Y = {1, 3, 1};
    private static final String[][] SAME_Y = {
        {"6916fac45e568b6b9e2e2ecd611b282e5fcc40a3067d601057f879ce5a8a73cc", "8d0177ebab9c6e9e10db6dd095dbac0d6375e8a97b70f611875d877f0069d2c7",
            "09e78d4ef60d05f750f6636209092bc43cbdd6b47e11a9de20a9feb2a50bb96c"},
        {"c644b36c276ea16f8d3c17b3cfc85ac1658045e4d40dd81eb71c542323c01d1d5b2271bff064e8665224b0b42967b08c",
            "a829aa21faf8544cb547d22cf64c97982898907052901231fe4836d85ce4d44a55009f4442548cdd9e1a9541a8f257ec",
            "9191a271dd990a43bd7c161f39eb0da671e729aad96215af4a9b75047f5b0e964fdceef9cd468abc0fc0ba0c2da5f786"},
        {"cbb0deab125754f1fdb2038b0434ed9cb3fb53ab735391129994a535d925f673", "1fe1e5ef3fceb5c135ab7741333ce5a6e80d68167653f6b2b24bcbcfaaaff507",
            "146d3b65add9f54ccca28533c88e2cbc63f7443e1658783ab41f8ef97c2a10b5"}
    };
    /** With the secret 01 .. 20 and the text "test" (SHA-256), these bytes behind make the first number the order or more. */
    private static final String LATER = "240a7007";
    private static final Random RANDOM = new Random(51);
    private static final Twin T = new Twin();

    public static void main(String[] args) {
        for (int curve = 0; curve < 3; curve++) {
            forms(curve);
            coordinates(curve);
            sums(curve);
            scalars(curve);
            agreements(curve);
            secrets(curve);
            ecdsaNumbers(curve);
            ecdsaPoints(curve);
            ecdsaNonces(curve);
            reusedLimits(curve);
        }
        schnorrLimits();
        schnorrSigned();
        schnorrPoints();
        T.end();
        Check.end();
    }

    private static BigInteger some(int curve) {
        return new BigInteger(8 * Affine.width(curve), RANDOM).mod(Affine.Q[curve].subtract(ONE)).add(ONE);
    }

    private static String fixed(BigInteger v, int curve) {
        return Affine.fixed(v, Affine.width(curve));
    }

    /** "A POINT is a row: one byte 0 (NONE), or 4, x, y, or 2 or 3 (by y even, odd), x". */
    private static void forms(int curve) {
        int w = Affine.width(curve);
        for (int i = 0; i < 4; i++) {
            BigInteger[] p = Affine.times(curve, some(curve), Affine.G[curve]);
            p = i % 2 == 0 ? p : Affine.turned(curve, p);
            String low = Affine.shortForm(curve, p);
            String high = Affine.longForm(curve, p);
            T.told("what names a point takes each form");
            for (String form : new String[] {low, high}) {
                T.gives(high, "point", curve, 4, form, "");
                T.gives(Affine.shortForm(curve, Affine.turned(curve, p)), "point", curve, 3, form, "ff");
                T.gives(low, "point", curve, 1, "01", form);
                T.gives(low, "point", curve, 2, form, "00");
                T.gives(low, "point", curve, 2, "00", form);
                T.gives(Affine.shortForm(curve, Affine.plus(curve, p, p)), "point", curve, 2, form, i < 2 ? low : high);
                T.gives(fixed(p[0], curve), "agree", curve, fixed(ONE, curve), form);
            }
            String x = fixed(p[0], curve);
            String y = fixed(p[1], curve);
            T.told("What is none: -3");
            for (int first = 0; first < 256; first += i == 0 ? 1 : 7) {
                String head = String.format("%02x", first);
                if (first != 2 && first != 3) {
                    none(curve, head + x);
                }
                if (first != 4) {
                    none(curve, head + x + y);
                }
                if (first != 0) {
                    none(curve, head);
                }
            }
            for (String bad : new String[] {"", "0000", "00" + "00".repeat(w), "00".repeat(1 + 2 * w), x, x + y, low + "00", high + "00",
                "04" + x + y.substring(2), low.substring(0, 2 * w), "00" + low, "04" + x + fixed(p[1].xor(ONE), curve),
                "04" + fixed(p[0].xor(ONE), curve) + y, "04" + y + x, "02" + "00".repeat(8191)}) {
                none(curve, bad);
            }
        }
    }

    /** What is no point, wherever a point is read. */
    private static void none(int curve, String bad) {
        int w = Affine.width(curve);
        String g = Affine.shortForm(curve, Affine.G[curve]);
        T.leaves(-3, "point", curve, 1, "01", bad);
        T.leaves(-3, "point", curve, 2, bad, g);
        T.leaves(-3, "point", curve, 2, g, bad);
        T.leaves(-3, "point", curve, 3, bad, g);
        T.leaves(-3, "point", curve, 4, bad, g);
        T.leaves(-3, "agree", curve, fixed(ONE, curve), bad);
        T.leaves(0, "verify", curve, 2, bad, "", fixed(ONE, curve).repeat(2));
        T.told("-1 ahead of -3");
        T.leaves(-1, "point", curve, 1, "00".repeat(w + 1), bad);
        T.leaves(-1, "agree", curve, fixed(ZERO, curve), bad);
        T.told("What is none: -3");
    }

    /** "x and y have w bytes (32, 48, 32) and are below p". */
    private static void coordinates(int curve) {
        BigInteger p = Affine.P[curve];
        T.told("x and y .. are below p");
        BigInteger[] low = Affine.lift(curve, BigInteger.valueOf(SMALL_X[curve]));
        for (int i = 0; i < 2; i++) {
            BigInteger[] point = i == 0 ? low : Affine.turned(curve, low);
            T.gives(Affine.longForm(curve, point), "point", curve, 4, Affine.shortForm(curve, point), "");
            T.gives(Affine.longForm(curve, point), "point", curve, 4, Affine.longForm(curve, point), "");
            String over = fixed(point[0].add(p), curve);
            none(curve, "04" + over + fixed(point[1], curve));
            none(curve, (point[1].testBit(0) ? "03" : "02") + over);
            none(curve, (point[1].testBit(0) ? "02" : "03") + over);
        }
        BigInteger y = BigInteger.valueOf(SMALL_Y[curve]);
        for (String s : SAME_Y[curve]) {
            BigInteger[] point = {new BigInteger(s, 16), y};
            T.gives(Affine.shortForm(curve, point), "point", curve, 1, "01", Affine.longForm(curve, point));
            T.gives(Affine.longForm(curve, point), "point", curve, 4, "03" + s, "");
            T.gives(Affine.longForm(curve, Affine.turned(curve, point)), "point", curve, 4, "02" + s, "");
            none(curve, "04" + s + fixed(y.add(p), curve));
        }
        for (BigInteger v : new BigInteger[] {p, p.add(ONE), p.subtract(ONE), p.subtract(TWO), p.subtract(BigInteger.valueOf(5))}) {
            boolean is = v.compareTo(p) < 0 && Affine.lift(curve, v) != null;
            for (int parity = 2; parity < 4; parity++) {
                String form = "0" + parity + fixed(v, curve);
                if (is) {
                    T.gives(form, "point", curve, 1, "01", form);
                } else {
                    none(curve, form);
                }
            }
        }
        for (int x = 0; x < 20; x++) {
            BigInteger[] point = Affine.lift(curve, BigInteger.valueOf(x));
            if (point == null) {
                none(curve, "02" + fixed(BigInteger.valueOf(x), curve));
                none(curve, "03" + fixed(BigInteger.valueOf(x), curve));
            } else {
                T.gives(Affine.longForm(curve, point), "point", curve, 4, "02" + fixed(BigInteger.valueOf(x), curve), "");
            }
        }
    }

    /** "2 the points a and b added, 3 the point a with the other sign, 4 the long form of a"; "NONE: one byte, also as its long form". */
    private static void sums(int curve) {
        T.told("the points a and b added");
        BigInteger[][] points = new BigInteger[9][];
        for (int i = 1; i < 4; i++) {
            points[i] = Affine.times(curve, some(curve), Affine.G[curve]);
            points[i + 3] = new BigInteger[] {new BigInteger(SAME_Y[curve][i - 1], 16), BigInteger.valueOf(SMALL_Y[curve])};
        }
        points[7] = Affine.turned(curve, points[1]);
        points[8] = Affine.turned(curve, points[4]);
        for (int i = 0; i < 9; i++) {
            for (int k = 0; k < 9; k++) {
                String a = i % 2 == 0 ? Affine.longForm(curve, points[i]) : Affine.shortForm(curve, points[i]);
                String b = k % 2 == 1 ? Affine.longForm(curve, points[k]) : Affine.shortForm(curve, points[k]);
                T.gives(Affine.shortForm(curve, Affine.plus(curve, points[i], points[k])), "point", curve, 2, a, b);
            }
        }
        T.told("NONE: one byte, also as its long form");
        for (int op = 3; op < 5; op++) {
            T.gives("00", "point", curve, op, "00", "");
        }
        T.told("What an op does not tell is not looked at");
        String g = Affine.shortForm(curve, Affine.G[curve]);
        for (String other : new String[] {"", "ff", "00".repeat(8192)}) {
            T.gives(g, "point", curve, 0, "01", other);
            T.gives(Affine.longForm(curve, Affine.G[curve]), "point", curve, 4, g, other);
        }
        for (int op : new int[] {-1, 5, Integer.MIN_VALUE, Integer.MAX_VALUE}) {
            T.thrown("point", curve, op, g, g);
        }
    }

    /** "A SCALAR a has at most w bytes .. else -1, and may be any number." */
    private static void scalars(int curve) {
        int w = Affine.width(curve);
        BigInteger q = Affine.Q[curve];
        BigInteger[] p = Affine.times(curve, some(curve), Affine.G[curve]);
        T.told("and may be any number");
        BigInteger[] numbers = {
            ZERO, ONE, TWO, BigInteger.valueOf(3), BigInteger.valueOf(255), BigInteger.valueOf(256), q.subtract(TWO), q.subtract(ONE), q,
            q.add(ONE), q.add(TWO), TWO.pow(8 * w).subtract(ONE), TWO.pow(8 * w - 1), TWO.pow(8 * w - 1).subtract(ONE),
            q.shiftRight(1), q.shiftRight(1).add(ONE), some(curve), some(curve)
        };
        for (BigInteger k : numbers) {
            for (String a : new String[] {NumbersTest.bytes(k), fixed(k, curve)}) {
                T.gives(Affine.shortForm(curve, Affine.times(curve, k, Affine.G[curve])), "point", curve, 0, a, "");
                T.gives(Affine.shortForm(curve, Affine.times(curve, k, p)), "point", curve, 1, a, Affine.shortForm(curve, p));
                T.gives("00", "point", curve, 1, a, "00");
            }
        }
        T.told("at most w bytes, else -1");
        for (int n : new int[] {w + 1, w + 2, 2 * w, 8192}) {
            T.leaves(-1, "point", curve, 0, "00".repeat(n), "");
            T.leaves(-1, "point", curve, 1, "00".repeat(n), "00");
            T.leaves(-1, "point", curve, 1, "00".repeat(n - 1) + "01", "00");
        }
    }

    /** "the x of secret times the point (w bytes); secret 1 .. q - 1, w bytes, else -1; the point none or NONE: -3". */
    private static void agreements(int curve) {
        BigInteger q = Affine.Q[curve];
        BigInteger[] p = Affine.times(curve, some(curve), Affine.G[curve]);
        T.told("the x of secret times the point (w bytes)");
        for (BigInteger k : new BigInteger[] {ONE, TWO, q.subtract(ONE), q.subtract(TWO), some(curve)}) {
            T.gives(fixed(Affine.times(curve, k, p)[0], curve), "agree", curve, fixed(k, curve), Affine.shortForm(curve, p));
        }
        // An x of few bytes: 0s ahead.
        BigInteger[] low = Affine.lift(curve, BigInteger.valueOf(SMALL_X[curve]));
        T.gives(fixed(low[0], curve), "agree", curve, fixed(ONE, curve), Affine.shortForm(curve, low));
        T.told("the point none or NONE: -3");
        T.leaves(-3, "agree", curve, fixed(ONE, curve), "00");
        T.leaves(-3, "agree", curve, fixed(q.subtract(ONE), curve), "00");
    }

    /** "The secret of 0, 1, 2, 4: w bytes, 1 .. q - 1, else -1." */
    private static void secrets(int curve) {
        int w = Affine.width(curve);
        BigInteger q = Affine.Q[curve];
        String g = Affine.shortForm(curve, Affine.G[curve]);
        int kinds = curve == 2 ? 2 : 1;
        T.told("w bytes, 1 .. q - 1, else -1");
        for (int i = 0; i < kinds; i++) {
            int kind = i == 0 ? curve : 4;
            for (BigInteger k : new BigInteger[] {ONE, TWO, q.subtract(ONE), q.subtract(TWO)}) {
                BigInteger[] key = Affine.times(curve, k, Affine.G[curve]);
                String told = kind == 4 ? fixed(key[0], curve) : Affine.shortForm(curve, key);
                T.gives(told, "key", kind, fixed(k, curve));
                String s = T.made(2 * w, "sign", kind, 2, fixed(k, curve), "6162", "00".repeat(32));
                T.leaves(1, "verify", kind, 2, told, "6162", s);
                T.leaves(0, "verify", kind, 2, told, "6163", s);
            }
            String[] bad = {
                "", "01", fixed(ZERO, curve), fixed(q, curve), fixed(q.add(ONE), curve), "ff".repeat(w), fixed(ONE, curve).substring(2),
                "00" + fixed(ONE, curve), "00".repeat(8191) + "01"
            };
            for (String b : bad) {
                T.leaves(-1, "key", kind, b);
                T.leaves(-1, "sign", kind, 2, b, "6162", "00".repeat(32));
                T.leaves(-1, "agree", curve, b, g);
                T.leaves(-1, "agree", curve, b, "00");
            }
        }
    }

    private static BigInteger hashed(int curve, int h, String x) {
        CryptHouse house = new CryptHouse();
        Check.run(house, "hash", h, 0, x);
        String sum = Check.text(house, Check.TO);
        return new BigInteger(sum.substring(0, Math.min(sum.length(), 2 * Affine.width(curve))), 16);
    }

    private static int verified(int curve, int h, BigInteger[] key, String x, BigInteger r, BigInteger s) {
        BigInteger q = Affine.Q[curve];
        if (r.signum() == 0 || s.signum() == 0 || r.compareTo(q) >= 0 || s.compareTo(q) >= 0 || key == null) {
            return 0;
        }
        BigInteger u = s.modInverse(q);
        BigInteger[] sum = Affine.plus(curve, Affine.times(curve, u.multiply(hashed(curve, h, x)).mod(q), Affine.G[curve]),
            Affine.times(curve, u.multiply(r).mod(q), key));
        return sum != null && sum[0].mod(q).equals(r) ? 1 : 0;
    }

    private static void asked(int curve, int h, BigInteger[] key, String x, BigInteger r, BigInteger s, int want) {
        Check.due("the model", verified(curve, h, key, x, r, s), want);
        T.leaves(want, "verify", curve, h, Affine.shortForm(curve, key), x, fixed(r, curve) + fixed(s, curve));
        T.leaves(want, "verify", curve, h, Affine.longForm(curve, key), x, fixed(r, curve) + fixed(s, curve));
    }

    /** "VERIFIED: 1, or 0 (also for .. other sizes ..)": r and s 1 .. q - 1. */
    private static void ecdsaNumbers(int curve) {
        int w = Affine.width(curve);
        BigInteger q = Affine.Q[curve];
        T.told("the signature r, s of w bytes each");
        for (int h = 0; h < 10; h++) {
            BigInteger d = some(curve);
            BigInteger[] key = Affine.times(curve, d, Affine.G[curve]);
            String told = Affine.shortForm(curve, key);
            String text = T.made(2 * w, "sign", curve, h, fixed(d, curve), "6162", "07");
            BigInteger r = new BigInteger(text.substring(0, 2 * w), 16);
            BigInteger s = new BigInteger(text.substring(2 * w), 16);
            asked(curve, h, key, "6162", r, s, 1);
            asked(curve, h, key, "6162", r, q.subtract(s), 1);
            asked(curve, h, Affine.turned(curve, key), "6162", r, s, 0);
            for (BigInteger other : new BigInteger[] {ZERO, ONE, q.subtract(ONE), q, q.add(ONE)}) {
                asked(curve, h, key, "6162", other, s, 0);
                asked(curve, h, key, "6162", r, other, 0);
                asked(curve, h, key, "6162", other, other, 0);
            }
            T.told("also for .. other sizes");
            for (String bad : new String[] {"", text + "00", "00" + text, text.substring(2), text.substring(0, 2 * w), text + text}) {
                T.leaves(0, "verify", curve, h, told, "6162", bad);
            }
        }
    }

    /** Signatures made backwards: R beyond the order, R that is NONE, two points that are one, s and r that are the same modulo q. */
    private static void ecdsaPoints(int curve) {
        BigInteger q = Affine.Q[curve];
        T.told("VERIFIED: 1, or 0");
        // An x of q or more, below p: r is what is left modulo q.
        BigInteger x = q;
        for (int i = 0; i < 4; i++) {
            BigInteger[] point = null;
            for (; point == null; x = x.add(ONE)) {
                point = x.equals(q) ? null : Affine.lift(curve, x);
            }
            BigInteger r = point[0].mod(q);
            BigInteger s = some(curve);
            BigInteger z = hashed(curve, 2, "61");
            BigInteger[] key = Affine.times(curve, r.modInverse(q), Affine.plus(curve, Affine.times(curve, s, point),
                Affine.turned(curve, Affine.times(curve, z, Affine.G[curve]))));
            asked(curve, 2, key, "61", r, s, 1);
            asked(curve, 2, key, "61", r.add(q), s, 0);
            if (s.add(q).bitLength() <= 8 * Affine.width(curve)) {
                asked(curve, 2, key, "61", r, s.add(q), 0);
            }
        }
        // A small s, so that s and the order fit into w bytes.
        BigInteger d = some(curve);
        BigInteger k = some(curve);
        for (int i = 1; i < 4; i++) {
            BigInteger s = BigInteger.valueOf(i);
            BigInteger r = Affine.times(curve, k, Affine.G[curve])[0].mod(q);
            d = s.multiply(k).subtract(hashed(curve, 3, "61")).multiply(r.modInverse(q)).mod(q);
            BigInteger[] key = Affine.times(curve, d, Affine.G[curve]);
            asked(curve, 3, key, "61", r, s, 1);
            asked(curve, 3, key, "61", r, s.add(q), 0);
        }
        for (int h = 0; h < 10; h += 3) {
            BigInteger z = hashed(curve, h, "61");
            BigInteger r = some(curve);
            BigInteger s = some(curve);
            // z + r * d = 0: the point is NONE.
            BigInteger[] key = Affine.times(curve, z.negate().multiply(r.modInverse(q)).mod(q), Affine.G[curve]);
            asked(curve, h, key, "61", r, s, 0);
            // The key NONE, with which z / s times G would be all.
            BigInteger gx = Affine.G[curve][0].mod(q);
            asked(curve, h, null, "61", gx, z.mod(q), 0);
            // z = r * d: two points that are one are added.
            k = some(curve);
            r = Affine.times(curve, k, Affine.G[curve])[0].mod(q);
            key = Affine.times(curve, z.multiply(r.modInverse(q)).mod(q), Affine.G[curve]);
            asked(curve, h, key, "61", r, z.shiftLeft(1).multiply(k.modInverse(q)).mod(q), 1);
        }
    }

    private static byte[] hmac(int h, byte[] key, byte[]... parts) {
        try {
            return BoundsHashesTest.hmac(h, key, Check.join(parts));
        } catch (Exception e) {
            throw new IllegalStateException(e);
        }
    }

    /** "its nonce by RFC 6979 with the same hash (more: bytes put behind there as k', none or any)". */
    private static void ecdsaNonces(int curve) {
        int w = Affine.width(curve);
        BigInteger q = Affine.Q[curve];
        T.told("bytes put behind there as k', none or any");
        for (int h = 0; h < 10; h++) {
            for (int n : new int[] {0, 1, 32, 200, h == 2 ? 8192 : 3}) {
                byte[] more = Examples.some(n, 1);
                BigInteger d = some(curve);
                BigInteger z = hashed(curve, h, "6162");
                nonceOf(curve, h, d, z, more, "6162");
            }
        }
        T.told("the nonce is 1 .. q - 1: the next one is taken");
        if (curve == 0) {
            byte[] more = Check.bytes(LATER);
            byte[] secret = new byte[32];
            for (int i = 0; i < 32; i++) {
                secret[i] = (byte) (i + 1);
            }
            int tries = nonceOf(0, 2, new BigInteger(1, secret), hashed(0, 2, "74657374"), more, "74657374");
            Check.due("the second nonce", tries, 2);
        }
        Check.due("w", w, q.bitLength() / 8);
    }

    private static int nonceOf(int curve, int h, BigInteger d, BigInteger z, byte[] more, String text) {
        int w = Affine.width(curve);
        BigInteger q = Affine.Q[curve];
        int size = hmac(h, new byte[0]).length;
        byte[] v = new byte[size];
        java.util.Arrays.fill(v, (byte) 1);
        byte[] k = new byte[size];
        byte[] told = Check.join(Check.bytes(fixed(d, curve) + fixed(z.mod(q), curve)), more);
        for (byte mark = 0; mark < 2; mark++) {
            k = hmac(h, k, v, new byte[] {mark}, told);
            v = hmac(h, k, v);
        }
        for (int tries = 1; tries < 5; tries++) {
            byte[] all = new byte[0];
            while (all.length < w) {
                v = hmac(h, k, v);
                all = Check.join(all, v);
            }
            BigInteger nonce = new BigInteger(1, java.util.Arrays.copyOf(all, w));
            if (nonce.signum() > 0 && nonce.compareTo(q) < 0) {
                BigInteger r = Affine.times(curve, nonce, Affine.G[curve])[0].mod(q);
                BigInteger s = r.multiply(d).add(z).multiply(nonce.modInverse(q)).mod(q);
                T.gives(fixed(r, curve) + fixed(s, curve), "sign", curve, h, fixed(d, curve), text, more);
                return tries;
            }
            k = hmac(h, k, v, new byte[1]);
            v = hmac(h, k, v);
        }
        return 0;
    }

    /** "-1 sizes; -3 unless both have the same r, which is not 0 modulo q, and s that differ modulo q". */
    private static void reusedLimits(int curve) {
        int w = Affine.width(curve);
        BigInteger q = Affine.Q[curve];
        BigInteger top = TWO.pow(8 * w).subtract(ONE);
        T.told("-1 sizes");
        String good = fixed(ONE, curve) + fixed(TWO, curve);
        String other = fixed(ONE, curve) + fixed(ONE, curve);
        for (String bad : new String[] {"", good + "00", good.substring(2), "00" + good, fixed(ONE, curve), good + good}) {
            T.leaves(-1, "reused", curve, 2, bad, "61", other, "62");
            T.leaves(-1, "reused", curve, 2, good, "61", bad, "62");
            T.leaves(-1, "reused", curve, 2, bad, "61", bad, "62");
        }
        T.told("the same r, which is not 0 modulo q, and s that differ modulo q");
        BigInteger[] rs = {ZERO, ONE, q.subtract(ONE), q, q.add(ONE), top, some(curve)};
        BigInteger[] ss = {ZERO, ONE, TWO, q.subtract(ONE), q, q.add(ONE), top, some(curve)};
        for (int i = 0; i < rs.length; i++) {
            for (int k = 0; k < ss.length; k++) {
                for (int j = 0; j < ss.length; j++) {
                    String s = fixed(rs[i], curve) + fixed(ss[k], curve);
                    String t = fixed(rs[i], curve) + fixed(ss[j], curve);
                    BigInteger differ = ss[k].subtract(ss[j]).mod(q);
                    if (rs[i].mod(q).signum() == 0 || differ.signum() == 0) {
                        T.leaves(-3, "reused", curve, k, s, "61", t, "62");
                        continue;
                    }
                    // With one text the nonce comes out as 0.
                    String y = i % 2 == 0 ? "61" : "62";
                    BigInteger nonce = hashed(curve, k, "61").subtract(hashed(curve, k, y)).multiply(differ.modInverse(q)).mod(q);
                    BigInteger secret = nonce.multiply(ss[k]).subtract(hashed(curve, k, "61")).multiply(rs[i].modInverse(q)).mod(q);
                    T.gives(fixed(secret, curve), "reused", curve, k, s, "61", t, y);
                }
            }
        }
        T.told("of texts x and y");
        for (int n : new int[] {0, 1, 8192}) {
            String x = Check.hex(Examples.some(n, 1));
            String y = Check.hex(Examples.some(8192 - n, 2));
            BigInteger nonce = hashed(curve, 4, x).subtract(hashed(curve, 4, y)).mod(q);
            BigInteger secret = nonce.multiply(TWO).subtract(hashed(curve, 4, x)).mod(q);
            T.gives(fixed(secret, curve), "reused", curve, 4, good, x, other, y);
            String signed = T.made(2 * w, "sign", curve, 4, fixed(TWO, curve), x, "");
            T.leaves(1, "verify", curve, 4, Affine.longForm(curve, Affine.times(curve, TWO, Affine.G[curve])), x, signed);
        }
        T.told("both have the same r");
        T.leaves(-3, "reused", curve, 2, good, "61", fixed(TWO, curve) + fixed(ONE, curve), "62");
        for (int bit = 0; bit < 8 * w; bit += 17) {
            T.leaves(-3, "reused", curve, 2, good, "61", fixed(ONE.xor(ONE.shiftLeft(bit)), curve) + fixed(ONE, curve), "62");
        }
    }

    private static BigInteger challenge(String r, String key, String x) {
        byte[] tag = Check.sha256("BIP0340/challenge".getBytes());
        return new BigInteger(1, Check.sha256(tag, tag, Check.bytes(r + key + x))).mod(Affine.Q[2]);
    }

    /** "4 SCHNORR over curve 2 (BIP 340; more: 32 bytes of help; the key the 32 bytes of x)". */
    private static void schnorrLimits() {
        T.told("32 bytes of help");
        String secret = fixed(BigInteger.valueOf(7), 2);
        for (int n = 0; n < 66; n++) {
            if (n == 32) {
                T.made(64, "sign", 4, -1, secret, "61", Examples.some(n, 1));
            } else {
                T.leaves(-1, "sign", 4, -1, secret, "61", Examples.some(n, 1));
            }
        }
        T.told("the key the 32 bytes of x");
        String key = T.made(32, "key", 4, secret);
        String s = T.made(64, "sign", 4, 99, secret, "61", "00".repeat(32));
        T.leaves(1, "verify", 4, -9, key, "61", s);
        for (String bad : new String[] {"", "02" + key, key + "00", key.substring(2), T.made(33, "key", 2, secret), "00"}) {
            T.leaves(0, "verify", 4, 0, bad, "61", s);
        }
        for (String bad : new String[] {"", s + "00", "00" + s, s.substring(2), s.substring(64), s + s}) {
            T.leaves(0, "verify", 4, 0, key, "61", bad);
        }
        for (int n : new int[] {0, 1, 32, 64, 8192}) {
            String x = Check.hex(Examples.some(n, 2));
            String signed = T.made(64, "sign", 4, 0, secret, x, Examples.some(32, n));
            T.leaves(1, "verify", 4, 0, key, x, signed);
            T.leaves(0, "verify", 4, 0, key, n == 0 ? "00" : x.substring(2), signed);
        }
    }

    private static byte[] tagged(String tag, byte[]... parts) {
        byte[] sum = Check.sha256(tag.getBytes());
        return Check.sha256(sum, sum, Check.join(parts));
    }

    /** BIP 340's signing, as it is told there, with secrets and nonces whose points have an odd y, and such with an even one. */
    private static void schnorrSigned() {
        T.told("4 SCHNORR over curve 2 (BIP 340; more: 32 bytes of help ..)");
        BigInteger q = Affine.Q[2];
        for (int i = 0; i < 16; i++) {
            BigInteger d = i < 2 ? i == 0 ? ONE : q.subtract(ONE) : some(2);
            byte[] help = i == 2 ? new byte[32] : Examples.some(32, i);
            byte[] x = Examples.some(i * i, i);
            BigInteger[] point = Affine.times(2, d, Affine.G[2]);
            BigInteger even = point[1].testBit(0) ? q.subtract(d) : d;
            byte[] mixed = Check.bytes(fixed(even, 2));
            byte[] mask = tagged("BIP0340/aux", help);
            for (int k = 0; k < 32; k++) {
                mixed[k] ^= mask[k];
            }
            String key = fixed(point[0], 2);
            BigInteger k = new BigInteger(1, tagged("BIP0340/nonce", mixed, Check.bytes(key), x)).mod(q);
            BigInteger[] r = Affine.times(2, k, Affine.G[2]);
            k = r[1].testBit(0) ? q.subtract(k) : k;
            BigInteger s = k.add(challenge(fixed(r[0], 2), key, Check.hex(x)).multiply(even)).mod(q);
            T.gives(fixed(r[0], 2) + fixed(s, 2), "sign", 4, -1, fixed(d, 2), x, help);
            T.leaves(1, "verify", 4, -1, key, x, fixed(r[0], 2) + fixed(s, 2));
        }
    }

    /** Signatures made backwards: an R with an odd y, an R that is NONE, numbers that are not below p and q, a key that is none. */
    private static void schnorrPoints() {
        BigInteger q = Affine.Q[2];
        BigInteger p = Affine.P[2];
        T.told("SCHNORR: VERIFIED 1, or 0");
        for (int i = 0; i < 6; i++) {
            BigInteger d = some(2);
            BigInteger[] point = Affine.times(2, d, Affine.G[2]);
            d = point[1].testBit(0) ? q.subtract(d) : d;
            String key = fixed(point[0], 2);
            BigInteger k = some(2);
            BigInteger[] r = Affine.times(2, k, Affine.G[2]);
            BigInteger e = challenge(fixed(r[0], 2), key, "61");
            BigInteger even = r[1].testBit(0) ? q.subtract(k) : k;
            BigInteger s = even.add(e.multiply(d)).mod(q);
            T.leaves(1, "verify", 4, 0, key, "61", fixed(r[0], 2) + fixed(s, 2));
            T.leaves(0, "verify", 4, 0, key, "62", fixed(r[0], 2) + fixed(s, 2));
            BigInteger odd = q.subtract(even).add(e.multiply(d)).mod(q);
            T.leaves(0, "verify", 4, 0, key, "61", fixed(r[0], 2) + fixed(odd, 2));
            // s * G - e * P is NONE.
            T.leaves(0, "verify", 4, 0, key, "61", fixed(r[0], 2) + fixed(e.multiply(d).mod(q), 2));
            BigInteger zero = challenge(fixed(ZERO, 2), key, "61");
            T.leaves(0, "verify", 4, 0, key, "61", fixed(ZERO, 2) + fixed(zero.multiply(d).mod(q), 2));
            // Another r than the x that comes.
            e = challenge(fixed(ONE, 2), key, "61");
            T.leaves(0, "verify", 4, 0, key, "61", fixed(ONE, 2) + fixed(even.add(e.multiply(d)).mod(q), 2));
        }
        // Keys and numbers that are not below p and q.
        BigInteger[] low = Affine.lift(2, ONE);
        String key = fixed(low[0], 2);
        T.leaves(0, "verify", 4, 0, fixed(low[0].add(p), 2), "61", key + key);
        for (BigInteger s : new BigInteger[] {ZERO, ONE, q.subtract(ONE), q, q.add(ONE), p, TWO.pow(256).subtract(ONE)}) {
            T.leaves(0, "verify", 4, 0, key, "61", key + fixed(s, 2));
        }
        for (BigInteger x : new BigInteger[] {BigInteger.valueOf(5), p, p.add(ONE), TWO.pow(256).subtract(ONE)}) {
            T.leaves(0, "verify", 4, 0, fixed(x, 2), "61", key + fixed(ONE, 2));
        }
    }
}
