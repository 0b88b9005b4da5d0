import java.math.BigInteger;

/** The curves 0 .. 2 as school tells them: points are pairs of numbers, or nothing for NONE. */
final class Affine {
    static final BigInteger[] P = {
        new BigInteger("ffffffff00000001000000000000000000000000ffffffffffffffffffffffff", 16),
        new BigInteger("fffffffffffffffffffffffffffffffffffffffffffffffffffffffffffffffeffffffff0000000000000000ffffffff", 16),
        new BigInteger("fffffffffffffffffffffffffffffffffffffffffffffffffffffffefffffc2f", 16)
    };
    static final BigInteger[] Q = {
        new BigInteger("ffffffff00000000ffffffffffffffffbce6faada7179e84f3b9cac2fc632551", 16),
        new BigInteger("ffffffffffffffffffffffffffffffffffffffffffffffffc7634d81f4372ddf581a0db248b0a77aecec196accc52973", 16),
        new BigInteger("fffffffffffffffffffffffffffffffebaaedce6af48a03bbfd25e8cd0364141", 16)
    };
    private static final BigInteger[] A = {BigInteger.valueOf(-3), BigInteger.valueOf(-3), BigInteger.ZERO};
    private static final BigInteger[] B = {
        new BigInteger("5ac635d8aa3a93e7b3ebbd55769886bc651d06b0cc53b0f63bce3c3e27d2604b", 16),
        new BigInteger("b3312fa7e23ee7e4988e056be3f82d19181d9c6efe8141120314088f5013875ac656398d8a2ed19d2a85c8edd3ec2aef", 16),
        BigInteger.valueOf(7)
    };
    static final BigInteger[][] G = {
        {new BigInteger("6b17d1f2e12c4247f8bce6e563a440f277037d812deb33a0f4a13945d898c296", 16),
            new BigInteger("4fe342e2fe1a7f9b8ee7eb4a7c0f9e162bce33576b315ececbb6406837bf51f5", 16)},
        {new BigInteger("aa87ca22be8b05378eb1c71ef320ad746e1d3b628ba79b9859f741e082542a385502f25dbf55296c3a545e3872760ab7", 16),
            new BigInteger("3617de4a96262c6f5d9e98bf9292dc29f8f41dbd289a147ce9da3113b5f0b8c00a60b1ce1d7e819d7a431d7c90ea0e5f", 16)},
        {new BigInteger("79be667ef9dcbbac55a06295ce870b07029bfcdb2dce28d959f2815b16f81798", 16),
            new BigInteger("483ada7726a3c4655da4fbfc0e1108a8fd17b448a68554199c47d08ffb10d4b8", 16)}
    };

    private Affine() {
    }

    static int width(int c) {
        return c == 1 ? 48 : 32;
    }

    static String fixed(BigInteger v, int w) {
        String s = v.toString(16);
        return "0".repeat(2 * w - s.length()) + s;
    }

    static BigInteger side(int c, BigInteger x) {
        return x.pow(3).add(A[c].multiply(x)).add(B[c]).mod(P[c]);
    }

    /** The point with this x and an even y; nothing where there is none. */
    static BigInteger[] lift(int c, BigInteger x) {
        BigInteger y = side(c, x).modPow(P[c].add(BigInteger.ONE).shiftRight(2), P[c]);
        if (!y.multiply(y).mod(P[c]).equals(side(c, x))) {
            return null;
        }
        return new BigInteger[] {x, y.testBit(0) ? P[c].subtract(y) : y};
    }

    static BigInteger[] turned(int c, BigInteger[] a) {
        return a == null ? null : new BigInteger[] {a[0], a[1].negate().mod(P[c])};
    }

    static BigInteger[] plus(int c, BigInteger[] a, BigInteger[] b) {
        if (a == null || b == null) {
            return a == null ? b : a;
        }
        BigInteger p = P[c];
        BigInteger slope;
        if (a[0].equals(b[0])) {
            if (a[1].add(b[1]).mod(p).signum() == 0) {
                return null;
            }
            slope = a[0].pow(2).multiply(BigInteger.valueOf(3)).add(A[c]).multiply(a[1].shiftLeft(1).modInverse(p));
        } else {
            slope = b[1].subtract(a[1]).multiply(b[0].subtract(a[0]).modInverse(p));
        }
        BigInteger x = slope.pow(2).subtract(a[0]).subtract(b[0]).mod(p);
        return new BigInteger[] {x, slope.multiply(a[0].subtract(x)).subtract(a[1]).mod(p)};
    }

    static BigInteger[] times(int c, BigInteger k, BigInteger[] a) {
        BigInteger[] sum = null;
        for (int i = k.bitLength() - 1; i >= 0; i--) {
            sum = plus(c, sum, sum);
            sum = k.testBit(i) ? plus(c, sum, a) : sum;
        }
        return sum;
    }

    static String shortForm(int c, BigInteger[] a) {
        return a == null ? "00" : (a[1].testBit(0) ? "03" : "02") + fixed(a[0], width(c));
    }

    static String longForm(int c, BigInteger[] a) {
        return a == null ? "00" : "04" + fixed(a[0], width(c)) + fixed(a[1], width(c));
    }
}
