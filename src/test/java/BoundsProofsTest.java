import java.math.BigInteger;
import java.util.Random;

/** The boundary cases of promises 26 to 28: commitments, and proofs over curve 0. */
public final class BoundsProofsTest {
    private static final BigInteger ZERO = BigInteger.ZERO;
    private static final BigInteger ONE = BigInteger.ONE;
    private static final BigInteger Q = Affine.Q[0];
    private static final BigInteger TOP = BigInteger.TWO.pow(256).subtract(ONE);
    private static final BigInteger[] G = Affine.G[0];
    private static final BigInteger[] H = second();
    private static final Random RANDOM = new Random(81);
    private static final Twin T = new Twin();

    public static void main(String[] args) {
        commitments();
        sameScalars();
        samePoints();
        sameChecks();
        sameWithoutPoints();
        bitScalars();
        bitChecks();
        bitsWithoutPoints();
        newObjects();
        T.end();
        Check.end();
    }

    /** "H is the point with the even y whose x is the first SHA of [the 4 bytes of a count .., "second base"] that is the x of a point." */
    private static BigInteger[] second() {
        for (int i = 0;; i++) {
            byte[] count = {(byte) (i >> 24), (byte) (i >> 16), (byte) (i >> 8), (byte) i};
            BigInteger x = new BigInteger(1, Check.sha256(count, "second base".getBytes()));
            if (x.compareTo(Affine.P[0]) < 0 && Affine.lift(0, x) != null) {
                return Affine.lift(0, x);
            }
        }
    }

    private static BigInteger some() {
        return new BigInteger(300, RANDOM).mod(Q.subtract(ONE)).add(ONE);
    }

    private static String fixed(BigInteger v) {
        return Affine.fixed(v, 32);
    }

    private static String text(BigInteger[] point) {
        return Affine.shortForm(0, point);
    }

    private static BigInteger[] times(BigInteger k, BigInteger[] point) {
        return Affine.times(0, k.mod(Q), point);
    }

    private static BigInteger[] plus(BigInteger[] a, BigInteger[] b) {
        return Affine.plus(0, a, b);
    }

    private static BigInteger[] less(BigInteger[] a, BigInteger[] b) {
        return Affine.plus(0, a, Affine.turned(0, b));
    }

    private static BigInteger challenge(String... points) {
        return new BigInteger(1, Check.sha256(Check.bytes(String.join("", points)))).mod(Q);
    }

    /** "32 bytes, 1 .. q - 1, else -1 (v of a commitment may be 0)". */
    private static void commitments() {
        T.told("v of a commitment may be 0");
        BigInteger[] values = {ZERO, ONE, BigInteger.TWO, Q.subtract(ONE), Q, Q.add(ONE), TOP, some()};
        for (BigInteger v : values) {
            for (BigInteger r : values) {
                boolean fits = v.compareTo(Q) < 0 && r.signum() > 0 && r.compareTo(Q) < 0;
                if (fits) {
                    T.gives(text(plus(times(v, G), times(r, H))), "commit", fixed(v), fixed(r));
                } else {
                    T.leaves(-1, "commit", fixed(v), fixed(r));
                }
            }
        }
        T.told("32 bytes .. else -1");
        for (int n = 0; n < 66; n++) {
            if (n != 32) {
                T.leaves(-1, "commit", "01".repeat(n), fixed(ONE));
                T.leaves(-1, "commit", fixed(ONE), "01".repeat(n));
                T.leaves(-1, "commit", "00".repeat(n), fixed(ONE));
            }
        }
    }

    /** "Scalars that are told for proving: 32 bytes, 1 .. q - 1, else -1". */
    private static void sameScalars() {
        T.told("Scalars that are told for proving: 32 bytes, 1 .. q - 1, else -1");
        BigInteger[] values = {ZERO, ONE, BigInteger.TWO, Q.subtract(ONE), Q, Q.add(ONE), TOP};
        BigInteger[] q = times(some(), G);
        for (BigInteger a : values) {
            for (BigInteger k : values) {
                boolean fits = a.signum() > 0 && a.compareTo(Q) < 0 && k.signum() > 0 && k.compareTo(Q) < 0;
                if (fits) {
                    same(a, k, q);
                } else {
                    T.leaves(-1, "proveSame", fixed(a), text(q), fixed(k));
                    T.leaves(-1, "proveSame", fixed(a), "00", fixed(k));
                }
            }
        }
        for (int n = 0; n < 66; n++) {
            if (n != 32) {
                T.leaves(-1, "proveSame", "01".repeat(n), text(q), fixed(ONE));
                T.leaves(-1, "proveSame", fixed(ONE), text(q), "01".repeat(n));
                T.leaves(-1, "proveSame", fixed(ONE), "", "01".repeat(n));
            }
        }
    }

    private static String same(BigInteger a, BigInteger k, BigInteger[] q) {
        BigInteger[] x = times(a, G);
        BigInteger[] y = times(a, q);
        BigInteger e = challenge(text(q), text(x), text(y), text(times(k, G)), text(times(k, q)));
        String proof = fixed(e) + fixed(k.add(e.multiply(a)).mod(Q));
        T.gives(proof, "proveSame", fixed(a), text(q), fixed(k));
        T.leaves(1, "checkSame", text(x), text(q), text(y), proof);
        return proof;
    }

    private static String[] noPoints() {
        String g = text(G);
        return new String[] {
            "", "01", "0000", g + "00", g.substring(2), "00" + g, "04" + g.substring(2), "05" + g.substring(2), "02" + "ff".repeat(32),
            "03" + fixed(Affine.P[0]), Affine.longForm(0, G) + "00", "04" + Affine.longForm(0, G).substring(2, 130) + "00",
            "06" + Affine.longForm(0, G).substring(2), "00".repeat(33), "00".repeat(65)
        };
    }

    /** "NONE is -3"; "What is none: -3"; "what names a point takes each form". */
    private static void samePoints() {
        T.told("NONE is -3");
        T.leaves(-3, "proveSame", fixed(ONE), "00", fixed(ONE));
        T.told("What is none: -3");
        for (String bad : noPoints()) {
            T.leaves(-3, "proveSame", fixed(ONE), bad, fixed(ONE));
        }
        T.told("what names a point takes each form");
        for (int i = 0; i < 4; i++) {
            BigInteger[] q = times(some(), G);
            BigInteger a = some();
            String proof = same(a, some(), q);
            String whole = Affine.longForm(0, q);
            BigInteger k = some();
            T.gives(T.made(64, "proveSame", fixed(a), text(q), fixed(k)), "proveSame", fixed(a), whole, fixed(k));
            T.leaves(1, "checkSame", Affine.longForm(0, times(a, G)), whole, Affine.longForm(0, times(a, q)), proof);
            T.leaves(1, "checkSame", text(times(a, G)), whole, text(times(a, q)), proof);
        }
        // Q may be G, and a and k may be one.
        same(ONE, ONE, G);
        same(Q.subtract(ONE), ONE, G);
    }

    /** "1, 0 (also sizes, points that are none or NONE, numbers not below q)"; "in a proof that is checked 0 is one". */
    private static void sameChecks() {
        BigInteger a = some();
        BigInteger[] q = times(some(), G);
        String x = text(times(a, G));
        String y = text(times(a, q));
        String proof = same(a, some(), q);
        T.told("also sizes");
        for (int n = 0; n <= 130; n++) {
            if (n != 64) {
                T.leaves(0, "checkSame", x, text(q), y, (proof + proof + proof).substring(0, 2 * n));
            }
        }
        T.told("points that are none or NONE");
        for (String bad : noPoints()) {
            T.leaves(0, "checkSame", bad, text(q), y, proof);
            T.leaves(0, "checkSame", x, bad, y, proof);
            T.leaves(0, "checkSame", x, text(q), bad, proof);
        }
        T.leaves(0, "checkSame", "00", text(q), y, proof);
        T.leaves(0, "checkSame", x, "00", y, proof);
        T.leaves(0, "checkSame", x, text(q), "00", proof);
        T.leaves(0, "checkSame", x, text(q), text(times(a.add(ONE), q)), proof);
        T.leaves(0, "checkSame", y, text(q), x, proof);
        T.told("numbers not below q; 0 is one");
        for (BigInteger v : new BigInteger[] {ZERO, ONE, Q.subtract(ONE), Q, Q.add(ONE), TOP}) {
            T.leaves(0, "checkSame", x, text(q), y, fixed(v) + proof.substring(64));
            T.leaves(0, "checkSame", x, text(q), y, proof.substring(0, 64) + fixed(v));
            T.leaves(0, "checkSame", x, text(q), y, fixed(v) + fixed(v));
        }
        for (int bit = 0; bit < 512; bit += 9) {
            byte[] other = Check.bytes(proof);
            other[bit / 8] ^= 1 << bit % 8;
            T.leaves(0, "checkSame", x, text(q), y, other);
        }
    }

    /** Proofs made backwards, in which A and B would be NONE: NONE can't be named, however it were written. */
    private static void sameWithoutPoints() {
        T.told("points that are .. NONE");
        for (int i = 0; i < 3; i++) {
            BigInteger a = some();
            BigInteger[] q = times(some(), G);
            String x = text(times(a, G));
            String y = text(times(a, q));
            String[] endings = {"", "00", "0000", "00".repeat(33), "00".repeat(66), x + y};
            for (String ending : endings) {
                BigInteger e = challenge(text(q), x, y, ending);
                T.leaves(0, "checkSame", x, text(q), y, fixed(e) + fixed(e.multiply(a).mod(Q)));
            }
            // Y another point than a * Q, B what is left of it: only A would be NONE.
            String other = text(times(a.add(ONE), q));
            BigInteger e = challenge(text(q), x, other);
            T.leaves(0, "checkSame", x, text(q), other, fixed(e) + fixed(e.multiply(a).mod(Q)));
        }
    }

    private static String bit(int v, BigInteger r, BigInteger ew, BigInteger sw, BigInteger k) {
        BigInteger[] c = plus(times(BigInteger.valueOf(v), G), times(r, H));
        BigInteger[] target = v == 1 ? c : less(c, G);
        String aw = text(less(times(sw, H), times(ew, target)));
        String av = text(times(k, H));
        BigInteger e = v == 0 ? challenge(text(c), av, aw) : challenge(text(c), aw, av);
        BigInteger ev = e.subtract(ew).mod(Q);
        String own = fixed(ev) + fixed(k.add(ev.multiply(r)).mod(Q));
        return v == 0 ? own + fixed(ew) + fixed(sw) : fixed(ew) + fixed(sw) + own;
    }

    /** "v 0 or 1, x is r, e_w, s_w, k (32 bytes each)"; 1 .. q - 1 each. */
    private static void bitScalars() {
        T.told("Scalars that are told for proving: 32 bytes, 1 .. q - 1, else -1");
        BigInteger[] values = {ZERO, ONE, Q.subtract(ONE), Q, Q.add(ONE), TOP};
        for (int v = 0; v < 2; v++) {
            String c = "";
            for (int at = 0; at < 4; at++) {
                for (BigInteger value : values) {
                    BigInteger[] told = {some(), some(), some(), some()};
                    told[at] = value;
                    String x = fixed(told[0]) + fixed(told[1]) + fixed(told[2]) + fixed(told[3]);
                    if (value.signum() > 0 && value.compareTo(Q) < 0) {
                        String proof = bit(v, told[0], told[1], told[2], told[3]);
                        T.gives(proof, "proveBit", v, x);
                        c = text(plus(times(BigInteger.valueOf(v), G), times(told[0], H)));
                        T.leaves(1, "checkBit", c, proof);
                    } else {
                        T.leaves(-1, "proveBit", v, x);
                    }
                }
            }
            T.told("32 bytes each");
            for (int n = 0; n <= 260; n++) {
                if (n != 128) {
                    T.leaves(-1, "proveBit", v, "01".repeat(n));
                }
            }
        }
        T.told("v 0 or 1");
        for (int v : new int[] {-1, 2, 3, 256, Integer.MIN_VALUE, Integer.MAX_VALUE}) {
            T.leaves(-1, "proveBit", v, "01".repeat(128));
            T.leaves(-1, "proveBit", v, "");
        }
    }

    /** "Whether it fits for the commitment c: 1, 0 (as above)." */
    private static void bitChecks() {
        for (int v = 0; v < 2; v++) {
            BigInteger r = some();
            BigInteger[] c = plus(times(BigInteger.valueOf(v), G), times(r, H));
            String proof = bit(v, r, some(), some(), some());
            T.told("what names a point takes each form");
            T.leaves(1, "checkBit", text(c), proof);
            T.leaves(1, "checkBit", Affine.longForm(0, c), proof);
            T.told("also sizes");
            for (int n = 0; n <= 260; n++) {
                if (n != 128) {
                    T.leaves(0, "checkBit", text(c), (proof + proof + proof).substring(0, 2 * n));
                }
            }
            T.told("points that are none or NONE");
            for (String bad : noPoints()) {
                T.leaves(0, "checkBit", bad, proof);
            }
            T.leaves(0, "checkBit", "00", proof);
            T.leaves(0, "checkBit", text(plus(c, G)), proof);
            T.leaves(0, "checkBit", text(Affine.turned(0, c)), proof);
            T.told("numbers not below q; 0 is one");
            for (int at = 0; at < 4; at++) {
                for (BigInteger value : new BigInteger[] {ZERO, ONE, Q.subtract(ONE), Q, Q.add(ONE), TOP}) {
                    T.leaves(0, "checkBit", text(c), proof.substring(0, 64 * at) + fixed(value) + proof.substring(64 * at + 64));
                }
            }
            for (int bit = 0; bit < 1024; bit += 17) {
                byte[] other = Check.bytes(proof);
                other[bit / 8] ^= 1 << bit % 8;
                T.leaves(0, "checkBit", text(c), other);
            }
        }
        T.told("in a proof that is checked 0 is one");
        // With e_0 = 0 and s_0 = 1, A_0 is H; the rest is made for it, of a commitment to 1.
        for (int i = 0; i < 2; i++) {
            BigInteger r = some();
            BigInteger k = some();
            BigInteger[] c = plus(G, times(r, H));
            BigInteger s = i == 0 ? ONE : some();
            BigInteger e = challenge(text(c), text(times(s, H)), text(times(k, H)));
            String proof = fixed(ZERO) + fixed(s) + fixed(e) + fixed(k.add(e.multiply(r)).mod(Q));
            T.leaves(1, "checkBit", text(c), proof);
            T.leaves(0, "checkBit", text(c), fixed(Q) + proof.substring(64));
            // With s_0 = 0 A_0 is - e_0 * C.
            BigInteger e0 = some();
            e = challenge(text(c), text(Affine.turned(0, times(e0, c))), text(times(k, H))).subtract(e0).mod(Q);
            proof = fixed(e0) + fixed(ZERO) + fixed(e) + fixed(k.add(e.multiply(r)).mod(Q));
            T.leaves(1, "checkBit", text(c), proof);
            T.leaves(0, "checkBit", text(c), fixed(e0) + fixed(Q) + proof.substring(128));
        }
        T.told("e_0 + e_1 modulo q");
        int round = 0;
        for (int i = 0; i < 12; i++) {
            BigInteger r = some();
            BigInteger ew = i % 2 == 0 ? ONE : Q.subtract(ONE);
            String proof = bit(i / 2 % 2, r, ew, some(), some());
            BigInteger sum = new BigInteger(proof.substring(0, 64), 16).add(new BigInteger(proof.substring(128, 192), 16));
            round += sum.compareTo(Q) >= 0 ? 1 : 0;
            T.leaves(1, "checkBit", text(plus(times(BigInteger.valueOf(i / 2 % 2), G), times(r, H))), proof);
        }
        Check.due("sums that reach q, and such that do not", round > 0 && round < 12, true);
    }

    /** Proofs made backwards, in which A_0 or A_1 would be NONE. */
    private static void bitsWithoutPoints() {
        T.told("points that are .. NONE");
        for (int v = 0; v < 2; v++) {
            BigInteger r = some();
            BigInteger[] c = plus(times(BigInteger.valueOf(v), G), times(r, H));
            BigInteger[] target = v == 0 ? less(c, G) : c;
            for (String none : new String[] {"", "00", "00".repeat(33)}) {
                BigInteger e1 = some();
                BigInteger s1 = some();
                String other = text(less(times(s1, H), times(e1, target)));
                BigInteger e = v == 0 ? challenge(text(c), none, other) : challenge(text(c), other, none);
                BigInteger e0 = e.subtract(e1).mod(Q);
                String own = fixed(e0) + fixed(e0.multiply(r).mod(Q));
                String rest = fixed(e1) + fixed(s1);
                T.leaves(0, "checkBit", text(c), v == 0 ? own + rest : rest + own);
            }
        }
        // Where C is G, C - G is NONE: s_1 * H alone is named.
        BigInteger e0 = some();
        BigInteger s0 = some();
        BigInteger s1 = some();
        BigInteger e = challenge(text(G), text(less(times(s0, H), times(e0, G))), text(times(s1, H)));
        T.leaves(1, "checkBit", text(G), fixed(e0) + fixed(s0) + fixed(e.subtract(e0).mod(Q)) + fixed(s1));
        e = challenge(text(G), text(less(times(s0, H), times(e0, G))));
        T.leaves(0, "checkBit", text(G), fixed(e0) + fixed(s0) + fixed(e.subtract(e0).mod(Q)) + fixed(ZERO));
    }

    /** H is found by whichever call needs it first. */
    private static void newObjects() {
        BigInteger r = some();
        BigInteger[] told = {some(), some(), some()};
        String proof = bit(1, r, told[0], told[1], told[2]);
        String c = text(plus(G, times(r, H)));
        Check.gives(new CryptHouse(), c, "commit", fixed(ONE), fixed(r));
        Check.gives(new CryptHouse(), proof, "proveBit", 1, fixed(r) + fixed(told[0]) + fixed(told[1]) + fixed(told[2]));
        Check.due("checkBit", Check.run(new CryptHouse(), "checkBit", c, proof), "1");
        Check.due("checkBit", Check.run(new CryptHouse(), "checkBit", text(G), proof), "0");
    }
}
