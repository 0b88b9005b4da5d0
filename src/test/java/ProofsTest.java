import java.math.BigInteger;
import java.util.Random;

/** Promises 26 to 28: commitments, and proofs over curve 0. */
public final class ProofsTest {
    private static final Random RANDOM = new Random(7);
    private static final CryptHouse H = new CryptHouse();
    private static final BigInteger Q =
        new BigInteger("ffffffff00000000ffffffffffffffffbce6faada7179e84f3b9cac2fc632551", 16);
    private static final String ONE = "00".repeat(31) + "01";
    private static final String ZERO = "00".repeat(32);
    private static String second;

    public static void main(String[] args) {
        findSecond();
        commitments();
        same();
        bits();
        Check.end();
    }

    private static String made(String name, Object... args) {
        String answer = Check.run(H, name, args);
        String text = Check.text(H, Check.TO);
        Check.due(name, answer, String.valueOf(text.length() / 2));
        return text;
    }

    private static String scalar() {
        return fixed(new BigInteger(250, RANDOM).add(BigInteger.ONE));
    }

    private static String fixed(BigInteger v) {
        String s = v.toString(16);
        return "0".repeat(64 - s.length()) + s;
    }

    private static String sum(String a, String b) {
        return fixed(new BigInteger(a, 16).add(new BigInteger(b, 16)).mod(Q));
    }

    private static String product(String a, String b) {
        return fixed(new BigInteger(a, 16).multiply(new BigInteger(b, 16)).mod(Q));
    }

    private static String minus(String a) {
        return fixed(new BigInteger(a, 16).negate().mod(Q));
    }

    private static String times(String k, String point) {
        return made("point", 0, 1, k, point);
    }

    private static String plus(String a, String b) {
        return made("point", 0, 2, a, b);
    }

    private static String challenge(String... points) {
        return fixed(new BigInteger(1, Check.sha256(Check.bytes(String.join("", points)))).mod(Q));
    }

    private static void findSecond() {
        for (int i = 0; second == null; i++) {
            byte[] count = {(byte) (i >> 24), (byte) (i >> 16), (byte) (i >> 8), (byte) i};
            String x = "02" + Check.hex(Check.sha256(count, "second base".getBytes()));
            if (Check.run(H, "point", 0, 4, x, "").equals("65")) {
                second = x;
            }
        }
    }

    private static void commitments() {
        String g = made("key", 0, ONE);
        Check.gives(H, second, "commit", ZERO, ONE);
        Check.gives(H, plus(g, second), "commit", ONE, ONE);
        for (int i = 0; i < 4; i++) {
            String v = scalar();
            String r = scalar();
            Check.gives(H, plus(times(v, g), times(r, second)), "commit", v, r);
        }
        String top = fixed(Q.subtract(BigInteger.ONE));
        Check.gives(H, plus(times(top, g), times(top, second)), "commit", top, top);
        String[][] bad = {{ONE, ZERO}, {fixed(Q), ONE}, {ONE, fixed(Q)}, {"01", ONE}, {ONE, "01"}, {"", ONE}, {ONE + "00", ONE}};
        for (String[] b : bad) {
            Check.refused(H, "-1", "commit", b[0], b[1]);
        }
    }

    private static void same() {
        for (int i = 0; i < 3; i++) {
            String a = scalar();
            String k = scalar();
            String q = made("key", 0, scalar());
            String x = made("key", 0, a);
            String y = times(a, q);
            String e = challenge(q, x, y, made("key", 0, k), times(k, q));
            String proof = e + sum(k, product(e, a));
            String whole = made("point", 0, 4, q, "");
            Check.gives(H, proof, "proveSame", a, i == 0 ? q : whole, k);
            Check.due("same", Check.run(H, "checkSame", x, q, y, proof), "1");
            Check.due("same", Check.run(H, "checkSame", made("point", 0, 4, x, ""), whole, made("point", 0, 4, y, ""), proof), "1");
            String s = proof.substring(64);
            String[] bad = {"", proof + "00", proof.substring(2), s + e, e + fixed(Q), fixed(Q) + s, e + sum(s, ONE), ZERO + ZERO};
            for (String b : bad) {
                Check.due("same", Check.run(H, "checkSame", x, q, y, b), "0");
            }
            for (String b : new String[] {"", "00", q, "02" + "ff".repeat(32), x.substring(2)}) {
                Check.due("same", Check.run(H, "checkSame", b, q, y, proof), "0");
                Check.due("same", Check.run(H, "checkSame", x, b.equals(q) ? y : b, y, proof), "0");
                Check.due("same", Check.run(H, "checkSame", x, q, b, proof), "0");
            }
        }
        String g = made("key", 0, ONE);
        for (String b : new String[] {ZERO, fixed(Q), "", "01", ONE + "00"}) {
            Check.refused(H, "-1", "proveSame", b, "00", ONE);
            Check.refused(H, "-1", "proveSame", ONE, "00", b);
        }
        for (String b : new String[] {"00", "", "05", "02" + "ff".repeat(32), g + "00"}) {
            Check.refused(H, "-3", "proveSame", ONE, b, ONE);
        }
        // A proof whose first commitment would be NONE can't be named: 1 * G - 1 * G.
        Check.due("same", Check.run(H, "checkSame", g, g, g, ONE + ONE), "0");
    }

    private static String less(String point, String k, String other) {
        return plus(point, times(minus(k), other));
    }

    private static void bits() {
        String g = made("key", 0, ONE);
        for (int v = 0; v < 2; v++) {
            String r = scalar();
            String ew = scalar();
            String sw = scalar();
            String k = scalar();
            String c = made("commit", v == 0 ? ZERO : ONE, r);
            String target = v == 0 ? less(c, ONE, g) : c;
            String aw = less(times(sw, second), ew, target);
            String av = times(k, second);
            String e = v == 0 ? challenge(c, av, aw) : challenge(c, aw, av);
            String ev = sum(e, minus(ew));
            String sv = sum(k, product(ev, r));
            String proof = v == 0 ? ev + sv + ew + sw : ew + sw + ev + sv;
            Check.gives(H, proof, "proveBit", v, r + ew + sw + k);
            Check.due("bit", Check.run(H, "checkBit", c, proof), "1");
            Check.due("bit", Check.run(H, "checkBit", made("point", 0, 4, c, ""), proof), "1");
            for (int at = 0; at < 4; at++) {
                String part = proof.substring(64 * at, 64 * at + 64);
                String ahead = proof.substring(0, 64 * at);
                String behind = proof.substring(64 * at + 64);
                for (String b : new String[] {sum(part, ONE), fixed(Q), ZERO}) {
                    Check.due("bit", Check.run(H, "checkBit", c, ahead + b + behind), "0");
                }
            }
            for (String b : new String[] {"", "00", g, c.substring(2), "02" + "ff".repeat(32)}) {
                Check.due("bit", Check.run(H, "checkBit", b, proof), "0");
            }
            Check.due("bit", Check.run(H, "checkBit", c, proof + "00"), "0");
            Check.due("bit", Check.run(H, "checkBit", c, ""), "0");
            String two = made("commit", "00".repeat(31) + "02", r);
            Check.due("bit", Check.run(H, "checkBit", two, proof), "0");
        }
        // Where the commitment is G, the point less G is NONE, which is not named.
        String e0 = scalar();
        String s0 = scalar();
        String s1 = scalar();
        String e = challenge(g, less(times(s0, second), e0, g), times(s1, second));
        Check.due("bit", Check.run(H, "checkBit", g, e0 + s0 + sum(e, minus(e0)) + s1), "1");
        for (int v : new int[] {-1, 2, Integer.MAX_VALUE}) {
            Check.refused(H, "-1", "proveBit", v, ONE.repeat(4));
        }
        for (String b : new String[] {"", ONE.repeat(3), ONE.repeat(5), ONE.repeat(4) + "00"}) {
            Check.refused(H, "-1", "proveBit", 0, b);
        }
        for (int at = 0; at < 4; at++) {
            Check.refused(H, "-1", "proveBit", 1, ONE.repeat(at) + ZERO + ONE.repeat(3 - at));
            Check.refused(H, "-1", "proveBit", 1, ONE.repeat(at) + fixed(Q) + ONE.repeat(3 - at));
        }
        Check.due("proveBit", Check.run(H, "proveBit", 1, ONE.repeat(4)), "128");
    }
}
