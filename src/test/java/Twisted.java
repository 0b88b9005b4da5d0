import java.math.BigInteger;
import java.security.MessageDigest;

/** edwards25519 as RFC 8032 tells it, points as pairs of numbers; and X25519's ladder as RFC 7748 does. */
final class Twisted {
    static final BigInteger P = BigInteger.TWO.pow(255).subtract(BigInteger.valueOf(19));
    static final BigInteger L = BigInteger.TWO.pow(252).add(new BigInteger("27742317777372353535851937790883648493"));
    private static final BigInteger D =
        BigInteger.valueOf(-121665).multiply(BigInteger.valueOf(121666).modInverse(P)).mod(P);
    static final BigInteger[] NEUTRAL = {BigInteger.ZERO, BigInteger.ONE};
    static final BigInteger[] BASE = decoded("58" + "66".repeat(31));

    private Twisted() {
    }

    static BigInteger number(String hex) {
        byte[] b = Check.bytes(hex);
        byte[] turned = new byte[b.length];
        for (int i = 0; i < b.length; i++) {
            turned[b.length - 1 - i] = b[i];
        }
        return new BigInteger(1, turned);
    }

    /** 32 bytes, the lowest first. */
    static String little(BigInteger v) {
        StringBuilder s = new StringBuilder();
        for (int i = 0; i < 32; i++) {
            s.append(String.format("%02x", v.shiftRight(8 * i).intValue() & 255));
        }
        return s.toString();
    }

    /** The point that 32 bytes are; nothing where there is none. */
    static BigInteger[] decoded(String hex) {
        if (hex.length() != 64) {
            return null;
        }
        BigInteger y = number(hex);
        boolean odd = y.testBit(255);
        y = y.clearBit(255);
        if (y.compareTo(P) >= 0) {
            return null;
        }
        BigInteger u = y.pow(2).subtract(BigInteger.ONE);
        BigInteger v = y.pow(2).multiply(D).add(BigInteger.ONE);
        BigInteger square = u.multiply(v.modInverse(P)).mod(P);
        BigInteger x = square.modPow(P.add(BigInteger.valueOf(3)).shiftRight(3), P);
        if (!x.pow(2).mod(P).equals(square)) {
            x = x.multiply(BigInteger.TWO.modPow(P.shiftRight(2), P)).mod(P);
        }
        if (!x.pow(2).mod(P).equals(square) || x.signum() == 0 && odd) {
            return null;
        }
        return new BigInteger[] {x.testBit(0) == odd ? x : P.subtract(x), y};
    }

    static String encoded(BigInteger[] a) {
        return little(a[0].testBit(0) ? a[1].setBit(255) : a[1]);
    }

    static BigInteger[] plus(BigInteger[] a, BigInteger[] b) {
        return flat(added(wide(a), wide(b)));
    }

    private static BigInteger[] wide(BigInteger[] a) {
        return new BigInteger[] {a[0], a[1], BigInteger.ONE};
    }

    private static BigInteger[] flat(BigInteger[] a) {
        BigInteger z = a[2].modInverse(P);
        return new BigInteger[] {a[0].multiply(z).mod(P), a[1].multiply(z).mod(P)};
    }

    /** The law of addition, with x and y as fractions over one number. */
    private static BigInteger[] added(BigInteger[] a, BigInteger[] b) {
        BigInteger z = a[2].multiply(b[2]).mod(P);
        BigInteger zz = z.multiply(z).mod(P);
        BigInteger x = a[0].multiply(b[0]).mod(P);
        BigInteger y = a[1].multiply(b[1]).mod(P);
        BigInteger t = D.multiply(x).mod(P).multiply(y).mod(P);
        BigInteger less = zz.subtract(t);
        BigInteger more = zz.add(t);
        BigInteger cross = a[0].multiply(b[1]).add(a[1].multiply(b[0])).mod(P);
        return new BigInteger[] {
            z.multiply(less).mod(P).multiply(cross).mod(P), z.multiply(more).mod(P).multiply(x.add(y)).mod(P),
            less.multiply(more).mod(P)
        };
    }

    static BigInteger[] turned(BigInteger[] a) {
        return new BigInteger[] {a[0].negate().mod(P), a[1]};
    }

    static BigInteger[] times(BigInteger k, BigInteger[] a) {
        BigInteger[] sum = wide(NEUTRAL);
        for (int i = k.bitLength() - 1; i >= 0; i--) {
            sum = added(sum, sum);
            sum = k.testBit(i) ? added(sum, wide(a)) : sum;
        }
        return flat(sum);
    }

    /** The eight points whose order divides 8. */
    static BigInteger[][] small() {
        BigInteger[] t = NEUTRAL;
        for (int y = 2; times(BigInteger.valueOf(4), t)[1].equals(BigInteger.ONE); y++) {
            BigInteger[] a = decoded(little(BigInteger.valueOf(y)));
            t = a == null ? NEUTRAL : times(L, a);
        }
        BigInteger[][] all = new BigInteger[8][];
        for (int i = 0; i < 8; i++) {
            all[i] = times(BigInteger.valueOf(i), t);
        }
        return all;
    }

    static BigInteger hashed(String... parts) {
        return number(Check.hex(sum(parts))).mod(L);
    }

    static byte[] sum(String... parts) {
        try {
            return MessageDigest.getInstance("SHA-512").digest(Check.bytes(String.join("", parts)));
        } catch (java.security.NoSuchAlgorithmException e) {
            throw new IllegalStateException(e);
        }
    }

    /** X25519 of 32 bytes each. */
    static String exchanged(String secret, String point) {
        return little(ladder(clamped(secret), number(point).clearBit(255)));
    }

    static BigInteger clamped(String secret) {
        return number(secret).clearBit(0).clearBit(1).clearBit(2).clearBit(255).setBit(254);
    }

    /** RFC 7748's ladder for any number; 0 for a point that is neutral. */
    static BigInteger ladder(BigInteger k, BigInteger x1) {
        BigInteger x2 = BigInteger.ONE;
        BigInteger z2 = BigInteger.ZERO;
        BigInteger x3 = x1;
        BigInteger z3 = BigInteger.ONE;
        for (int i = 255; i >= 0; i--) {
            boolean swap = k.testBit(i);
            BigInteger a = (swap ? x3.add(z3) : x2.add(z2)).mod(P);
            BigInteger b = (swap ? x3.subtract(z3) : x2.subtract(z2)).mod(P);
            BigInteger c = (swap ? x2.add(z2) : x3.add(z3)).mod(P);
            BigInteger d = (swap ? x2.subtract(z2) : x3.subtract(z3)).mod(P);
            BigInteger da = d.multiply(a).mod(P);
            BigInteger cb = c.multiply(b).mod(P);
            BigInteger aa = a.multiply(a).mod(P);
            BigInteger bb = b.multiply(b).mod(P);
            BigInteger e = aa.subtract(bb).mod(P);
            BigInteger added = da.add(cb).pow(2).mod(P);
            BigInteger addedZ = x1.multiply(da.subtract(cb).pow(2)).mod(P);
            BigInteger doubled = aa.multiply(bb).mod(P);
            BigInteger doubledZ = e.multiply(aa.add(BigInteger.valueOf(121665).multiply(e))).mod(P);
            x2 = swap ? added : doubled;
            z2 = swap ? addedZ : doubledZ;
            x3 = swap ? doubled : added;
            z3 = swap ? doubledZ : addedZ;
        }
        // The steps keep the pair in its place, whichever was the lower one.
        return x2.multiply(z2.modPow(P.subtract(BigInteger.TWO), P)).mod(P);
    }
}
