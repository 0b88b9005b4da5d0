import java.math.BigInteger;
import java.util.Random;

/** Promises 15 to 19: points, agreements, signatures and hybrid sealing, beside the vectors. */
public final class CurvesTest {
    private static final Random RANDOM = new Random(4);
    private static final CryptHouse H = new CryptHouse();
    private static final String[] ORDERS = {
        "ffffffff00000000ffffffffffffffffbce6faada7179e84f3b9cac2fc632551",
        "ffffffffffffffffffffffffffffffffffffffffffffffffc7634d81f4372ddf581a0db248b0a77aecec196accc52973",
        "fffffffffffffffffffffffffffffffebaaedce6af48a03bbfd25e8cd0364141"
    };
    private static final String[] FIELDS = {
        "ffffffff00000001000000000000000000000000ffffffffffffffffffffffff",
        "fffffffffffffffffffffffffffffffffffffffffffffffffffffffffffffffeffffffff0000000000000000ffffffff",
        "fffffffffffffffffffffffffffffffffffffffffffffffffffffffefffffc2f"
    };
    private static final String L = "edd3f55c1a631258d69cf7a2def9de1400000000000000000000000000000010";

    public static void main(String[] args) {
        for (int curve = 0; curve < 3; curve++) {
            ops(curve);
            forms(curve);
            agreements(curve);
            ecdsa(curve);
            reused(curve);
        }
        edwards();
        exchange();
        ed25519();
        schnorr();
        hybrid();
        Check.end();
    }

    private static String answer(String name, Object... args) {
        return Check.run(H, name, args);
    }

    /** What a call that is to be done writes. */
    private static String made(String name, Object... args) {
        String answer = Check.run(H, name, args);
        String text = Check.text(H, Check.TO);
        Check.due(name, answer, String.valueOf(text.length() / 2));
        return text;
    }

    private static String zeros(int n) {
        return "00".repeat(n);
    }

    private static String some(int n) {
        byte[] b = new byte[n];
        RANDOM.nextBytes(b);
        return Check.hex(b);
    }

    private static String plus(String number, int v) {
        String s = new BigInteger(number, 16).add(BigInteger.valueOf(v)).toString(16);
        return "0".repeat(Math.max(0, number.length() - s.length())) + s;
    }

    private static void ops(int curve) {
        int w = curve == 1 ? 48 : 32;
        String q = ORDERS[curve];
        String g = made("point", curve, 0, "01", "");
        Check.due("the short form", g.length(), 2 + 2 * w);
        Check.gives(H, "00", "point", curve, 0, "", "");
        Check.gives(H, "00", "point", curve, 0, q, "");
        Check.gives(H, g, "point", curve, 0, plus(q, 1), "aabb");
        String minus = made("point", curve, 0, plus(q, -1), "");
        Check.gives(H, minus, "point", curve, 3, g, "aabb");
        Check.gives(H, "00", "point", curve, 2, g, minus);
        Check.gives(H, g, "point", curve, 2, g, "00");
        Check.gives(H, g, "point", curve, 2, "00", g);
        Check.gives(H, "00", "point", curve, 2, "00", "00");
        Check.gives(H, "00", "point", curve, 1, "05", "00");
        Check.gives(H, "00", "point", curve, 3, "00", "");
        Check.gives(H, "00", "point", curve, 4, "00", "");
        Check.gives(H, made("point", curve, 0, "02", ""), "point", curve, 2, g, g);
        for (int i = 0; i < 4; i++) {
            String a = some(i == 0 ? 2 : w);
            String b = some(w);
            String pa = made("point", curve, 0, a, "");
            String pb = made("point", curve, 0, b, "");
            String both = made("point", curve, 2, made("point", curve, 4, pa, ""), pb);
            BigInteger sum = new BigInteger(a, 16).add(new BigInteger(b, 16)).mod(new BigInteger(q, 16));
            Check.gives(H, both, "point", curve, 0, NumbersTest.bytes(sum), "");
            Check.gives(H, made("point", curve, 1, a, pb), "point", curve, 1, b, pa);
        }
        Check.refused(H, "-1", "point", curve, 0, zeros(w + 1), "");
        Check.refused(H, "-1", "point", curve, 1, zeros(w + 1), "");
        Check.due("any number", answer("point", curve, 1, "ff".repeat(w), g), String.valueOf(w + 1));
    }

    private static void forms(int curve) {
        int w = curve == 1 ? 48 : 32;
        String p = made("point", curve, 0, some(w), "");
        String whole = made("point", curve, 4, p, "");
        Check.due("the long form", whole.substring(0, 2 + 2 * w), "04" + p.substring(2));
        Check.gives(H, whole, "point", curve, 4, whole, "");
        String x = p.substring(2);
        String y = whole.substring(2 + 2 * w);
        String[] bad = {
            "", "01", "0000", "04", "05" + x + y, "00" + x, "01" + x, "04" + x, "02" + x + y, p.substring(2), p + "00",
            whole + "00", whole.substring(0, whole.length() - 2), "04" + x + plus(y, 1), "04" + plus(x, 1) + y, "04" + y + x,
            "02" + FIELDS[curve], "03" + plus(FIELDS[curve], 1), "04" + FIELDS[curve] + y, "04" + x + "ff".repeat(w)
        };
        for (String b : bad) {
            for (int op = 1; op <= 4; op++) {
                Check.refused(H, "-3", "point", curve, op, op == 1 ? "01" : b, op == 1 ? b : "00");
            }
            Check.refused(H, "-3", "point", curve, 2, p, b);
            Check.refused(H, "-3", "agree", curve, "01".repeat(w), b);
            Check.due("verify", answer("verify", curve, 2, b, "00", "01".repeat(2 * w)), "0");
        }
    }

    private static void agreements(int curve) {
        int w = curve == 1 ? 48 : 32;
        String a = "01" + some(w - 1);
        String b = "02" + some(w - 1);
        String pa = made("key", curve, a);
        String pb = made("point", curve, 4, made("key", curve, b), "");
        String shared = made("agree", curve, a, pb);
        Check.due("the x", shared.length(), 2 * w);
        Check.gives(H, shared, "agree", curve, b, pa);
        Check.refused(H, "-3", "agree", curve, a, "00");
        String[] bad = {"", zeros(w), ORDERS[curve], "ff".repeat(w), a.substring(2), "00" + a};
        for (String s : bad) {
            Check.refused(H, "-1", "agree", curve, s, "00");
            Check.refused(H, "-1", "key", curve, s);
            Check.refused(H, "-1", "sign", curve, 2, s, "00", "");
        }
        Check.gives(H, made("point", curve, 0, plus(ORDERS[curve], -1), ""), "key", curve, plus(ORDERS[curve], -1));
    }

    private static void ecdsa(int curve) {
        int w = curve == 1 ? 48 : 32;
        String secret = "01" + some(w - 1);
        String key = made("key", curve, secret);
        String whole = made("point", curve, 4, key, "");
        String q = ORDERS[curve];
        for (int h = 0; h < 10; h++) {
            String x = some(h);
            String s = made("sign", curve, h, secret, x, "");
            String other = made("sign", curve, h, secret, x, "aa");
            Check.due("a nonce with more", s.equals(other), false);
            Check.due("verify", answer("verify", curve, h, key, x, s), "1");
            Check.due("verify", answer("verify", curve, h, whole, x, other), "1");
            Check.due("verify", answer("verify", curve, h, key, x + "00", s), "0");
            Check.due("verify", answer("verify", curve, (h + 1) % 10, key, x, s), "0");
            String r = s.substring(0, 2 * w);
            String t = s.substring(2 * w);
            String minus = new BigInteger(q, 16).subtract(new BigInteger(t, 16)).toString(16);
            minus = "0".repeat(2 * w - minus.length()) + minus;
            Check.due("verify", answer("verify", curve, h, key, x, r + minus), "1");
            String[] bad = {"", r, s + "00", t + r, zeros(w) + t, r + zeros(w), q + t, r + q, zeros(2 * w), r + plus(t, 1)};
            for (String b : bad) {
                Check.due("verify", answer("verify", curve, h, key, x, b), "0");
            }
        }
        // RFC 6979's sample for P-256 with SHA-256.
        if (curve == 0) {
            Check.gives(H, "efd48b2aacb6a8fd1140dd9cd45e81d69d2c877b56aaf991c34d0ea84eaf3716"
                + "f7cb1c942d657c41d436c7a1b6e29f65f3e900dbb9aff4064dc4ab2f843acda8", "sign", 0, 2,
                "c9afa9d845ba75166b5c215767b1d6934e50c3db36e89b127b8a622b120f6721", "73616d706c65", "");
        }
        Check.due("verify", answer("verify", curve, 2, "00", "00", "01".repeat(2 * w)), "0");
    }

    private static void reused(int curve) {
        int w = curve == 1 ? 48 : 32;
        BigInteger q = new BigInteger(ORDERS[curve], 16);
        BigInteger d = new BigInteger("01" + some(w - 1), 16);
        BigInteger k = new BigInteger("01" + some(w - 1), 16);
        String r = made("agree", curve, fixed(k, w), made("point", curve, 0, "01", ""));
        BigInteger rest = new BigInteger(r, 16).mod(q);
        for (int h = 0; h < 10; h++) {
            String[] s = new String[2];
            for (int i = 0; i < 2; i++) {
                String hash = made("hash", h, 0, "0" + i);
                BigInteger z = new BigInteger(hash.substring(0, Math.min(hash.length(), 2 * w)), 16);
                s[i] = fixed(rest, w) + fixed(k.modInverse(q).multiply(z.add(rest.multiply(d))).mod(q), w);
            }
            Check.gives(H, fixed(d, w), "reused", curve, h, s[0], "00", s[1], "01");
            Check.refused(H, "-3", "reused", curve, h, s[0], "00", s[0], "00");
            Check.refused(H, "-3", "reused", curve, h, s[0], "00", plus(s[1].substring(0, 2 * w), 1) + s[1].substring(2 * w), "01");
            Check.refused(H, "-3", "reused", curve, h, zeros(w) + s[0].substring(2 * w), "00", zeros(w) + s[1].substring(2 * w), "01");
            String at = ORDERS[curve];
            Check.refused(H, "-3", "reused", curve, h, at + s[0].substring(2 * w), "00", at + s[1].substring(2 * w), "01");
            Check.refused(H, "-3", "reused", curve, h, at + zeros(w), "00", at + at, "01");
            Check.refused(H, "-1", "reused", curve, h, s[0] + "00", "00", s[1], "01");
            Check.refused(H, "-1", "reused", curve, h, s[0], "00", s[1].substring(2), "01");
        }
    }

    private static String fixed(BigInteger v, int w) {
        String s = v.toString(16);
        return "0".repeat(2 * w - s.length()) + s;
    }

    private static void edwards() {
        String neutral = "01" + zeros(31);
        String base = "58" + "66".repeat(31);
        Check.gives(H, base, "point", 3, 0, "01", "");
        Check.gives(H, neutral, "point", 3, 0, "", "");
        Check.gives(H, neutral, "point", 3, 0, L, "");
        Check.gives(H, base, "point", 3, 1, "01" + zeros(5), base);
        Check.gives(H, neutral, "point", 3, 1, "05", neutral);
        Check.gives(H, base, "point", 3, 2, base, neutral);
        Check.gives(H, neutral, "point", 3, 3, neutral, "");
        Check.gives(H, base, "point", 3, 4, base, "");
        Check.gives(H, neutral, "point", 3, 2, base, made("point", 3, 3, base, ""));
        Check.gives(H, made("point", 3, 0, "02", ""), "point", 3, 2, base, base);
        // A point of order four: the order of G does not bring it to the neutral one.
        String four = zeros(32);
        Check.gives(H, four, "point", 3, 1, L, four);
        Check.gives(H, "ec" + "ff".repeat(30) + "7f", "point", 3, 2, four, four);
        Check.gives(H, neutral, "point", 3, 1, "04", four);
        String[] bad = {
            "", "00", base + "00", base.substring(2), "01" + zeros(30) + "80", "ec" + "ff".repeat(31),
            "ed" + "ff".repeat(30) + "7f", "ee" + "ff".repeat(30) + "7f", "ff".repeat(32), "02" + zeros(31)
        };
        for (String b : bad) {
            for (int op = 1; op <= 4; op++) {
                Check.refused(H, "-3", "point", 3, op, op == 1 ? "01" : b, op == 1 ? b : base);
            }
            Check.refused(H, "-3", "point", 3, 2, base, b);
        }
        Check.refused(H, "-1", "point", 3, 0, zeros(33), "");
        Check.refused(H, "-1", "point", 3, 1, zeros(33), "");
    }

    private static void exchange() {
        // RFC 7748's samples.
        String a = "77076d0a7318a57d3c16c17251b26645df4c2f87ebc0992ab177fba51db92c2a";
        String b = "5dab087e624a8a4b79e17f8b83800ee66f3bb1292618b6fd1c2f8b27ff88e0eb";
        String shared = "4a5d9d5ba4ce2de1728e3bf480350f25e07e21c947d19e3376f09b3c1e161742";
        Check.gives(H, "8520f0098930a754748b7ddcb43ef75a0dbf3a0d26381af4eba4a98eaa9b4e6a", "key", 5, a);
        Check.gives(H, shared, "agree", 3, a, made("key", 5, b));
        Check.gives(H, shared, "agree", 3, b, made("key", 5, a));
        Check.refused(H, "-3", "agree", 3, a, zeros(32));
        Check.refused(H, "-3", "agree", 3, a, "01" + zeros(31));
        Check.refused(H, "-3", "agree", 3, a, "ed" + "ff".repeat(30) + "7f");
        Check.refused(H, "-1", "agree", 3, a, zeros(31));
        Check.refused(H, "-1", "agree", 3, a + "00", zeros(32));
        Check.refused(H, "-1", "key", 5, "");
        Check.refused(H, "-1", "key", 5, a + "00");
    }

    private static void ed25519() {
        String secret = "9d61b19deffd5a60ba844af492ec2cc44449c5697b326919703bac031cae7f60";
        String key = "d75a980182b10ab7d54bfed3c964073a0ee172f3daa62325af021a68f707511a";
        String s = "e5564300c360ac729086e2cc806e828a84877f1eb8e5d974d873e065224901555fb8821590a33bacc61e39701cf9b46bd25bf5f0595bbe2465514143"
            + "8e7a100b";
        Check.gives(H, key, "key", 3, secret);
        Check.gives(H, s, "sign", 3, -1, secret, "", "ff");
        Check.due("verify", answer("verify", 3, 50, key, "", s), "1");
        Check.due("verify", answer("verify", 3, 50, key, "00", s), "0");
        Check.due("S at the order", answer("verify", 3, 0, key, "", s.substring(0, 64) + L), "0");
        for (String bad : new String[] {"", s + "00", s.substring(2), "00" + s.substring(2), s.substring(0, 126) + "1b"}) {
            Check.due("verify", answer("verify", 3, 0, key, "", bad), "0");
        }
        for (String bad : new String[] {"", key + "00", "ff".repeat(32), "02" + zeros(31)}) {
            Check.due("verify", answer("verify", 3, 0, bad, "", s), "0");
        }
        // A key and an R of small order with S 0: 8 times each is the neutral point.
        Check.due("verify", answer("verify", 3, 0, zeros(32), "aabb", "01" + zeros(31) + zeros(32)), "1");
        Check.refused(H, "-1", "sign", 3, 0, secret.substring(2), "", "");
        Check.refused(H, "-1", "key", 3, secret + "00");
    }

    private static void schnorr() {
        // BIP 340's vectors 0 and 1.
        String s = "e907831f80848d1069a5371b402410364bdf1c5f8307b0084c55f1ce2dca821525f66a4a85ea8b71e482a74f382d2ce5ebeee8fdb2172f477df4900d"
            + "310536c0";
        String key = "f9308a019258c31049344f85f89d5229b531c845836f99b08601f113bce036f9";
        String secret = zeros(31) + "03";
        Check.gives(H, key, "key", 4, secret);
        Check.gives(H, s, "sign", 4, 0, secret, zeros(32), zeros(32));
        Check.due("verify", answer("verify", 4, 0, key, zeros(32), s), "1");
        Check.due("verify", answer("verify", 4, 0, key, zeros(31), s), "0");
        Check.due("verify", answer("verify", 4, 0, "02" + key, zeros(32), s), "0");
        Check.due("verify", answer("verify", 4, 0, FIELDS[2], zeros(32), s), "0");
        Check.due("verify", answer("verify", 4, 0, key, zeros(32), s.substring(0, 64) + ORDERS[2]), "0");
        Check.due("verify", answer("verify", 4, 0, key, zeros(32), FIELDS[2] + s.substring(64)), "0");
        for (String bad : new String[] {"", s + "00", s.substring(2), zeros(64)}) {
            Check.due("verify", answer("verify", 4, 0, key, zeros(32), bad), "0");
        }
        Check.refused(H, "-1", "sign", 4, 0, secret, "", zeros(31));
        Check.refused(H, "-1", "sign", 4, 0, secret, "", zeros(33));
        for (String bad : new String[] {"", "03", zeros(32), ORDERS[2], zeros(32) + "03"}) {
            Check.refused(H, "-1", "sign", 4, 0, bad, "", zeros(32));
            Check.refused(H, "-1", "key", 4, bad);
        }
    }

    private static void hybrid() {
        String secret = some(32);
        String key = made("key", 5, secret);
        for (int aead = 0; aead < 3; aead++) {
            String own = some(32);
            String x = some(40 * aead);
            String sealed = made("hybridSeal", aead, key, own, "aa", "bb", x);
            Check.due("enc", sealed.substring(0, 64), made("key", 5, own));
            Check.due("its size", sealed.length() / 2, 48 + x.length() / 2);
            Check.gives(H, x, "hybridOpen", aead, secret, "aa", "bb", sealed);
            Check.refused(H, "-3", "hybridOpen", aead, secret, "ab", "bb", sealed);
            Check.refused(H, "-3", "hybridOpen", aead, secret, "aa", "", sealed);
            Check.refused(H, "-3", "hybridOpen", (aead + 1) % 3, secret, "aa", "bb", sealed);
            Check.refused(H, "-3", "hybridOpen", aead, own, "aa", "bb", sealed);
            Check.refused(H, "-3", "hybridOpen", aead, secret, "aa", "bb", zeros(32) + sealed.substring(64));
            Check.refused(H, "-1", "hybridOpen", aead, secret, "aa", "bb", sealed.substring(0, 94));
            Check.refused(H, "-1", "hybridOpen", aead, secret + "00", "aa", "bb", sealed);
            Check.refused(H, "-1", "hybridSeal", aead, key + "00", own, "aa", "bb", zeros(8192));
            Check.refused(H, "-1", "hybridSeal", aead, key, own.substring(2), "aa", "bb", x);
            Check.refused(H, "-2", "hybridSeal", aead, zeros(32), own, "aa", "bb", zeros(8145));
            Check.refused(H, "-3", "hybridSeal", aead, zeros(32), own, "aa", "bb", zeros(8144));
            Check.due("hybridSeal", answer("hybridSeal", aead, key, own, "aa", "bb", zeros(8144)), "8192");
        }
    }
}
