import java.math.BigInteger;
import java.util.Random;

/** Promises 22 to 25: shares of rows, checked shares, and joint signatures. */
public final class SharesTest {
    private static final Random RANDOM = new Random(6);
    private static final CryptHouse H = new CryptHouse();
    private static final BigInteger Q =
        new BigInteger("ffffffff00000000ffffffffffffffffbce6faada7179e84f3b9cac2fc632551", 16);
    private static final BigInteger L =
        new BigInteger("1000000000000000000000000000000014def9dea2f79cd65812631a5cf5d3ed", 16);

    public static void main(String[] args) {
        shares();
        badShares();
        checked();
        badChecked();
        nonces();
        joint(1);
        joint(3);
        Check.end();
    }

    private static byte[] some(int n) {
        byte[] b = new byte[n];
        RANDOM.nextBytes(b);
        return b;
    }

    private static String made(String name, Object... args) {
        String answer = Check.run(H, name, args);
        String text = Check.text(H, Check.TO);
        Check.due(name, answer, String.valueOf(text.length() / 2));
        return text;
    }

    private static int product(int a, int b) {
        int r = 0;
        for (int i = 7; i >= 0; i--) {
            r = r << 1 ^ (r > 127 ? 0x11b : 0) ^ ((b >> i & 1) != 0 ? a : 0);
        }
        return r;
    }

    private static void shares() {
        for (int t = 1; t <= 8; t++) {
            for (int n : new int[] {1, 16, 255}) {
                byte[] x = some(n);
                byte[] coefficients = some((t - 1) * n);
                byte[][] all = new byte[t][];
                for (int k = 0; k < t; k++) {
                    int i = k == 0 ? 255 : 1 + k * 31;
                    byte[] want = new byte[n + 1];
                    want[0] = (byte) i;
                    for (int j = 0; j < n; j++) {
                        int value = x[j] & 255;
                        int power = i;
                        for (int r = 0; r < t - 1; r++) {
                            value ^= product(coefficients[r * n + j] & 255, power);
                            power = product(power, i);
                        }
                        want[j + 1] = (byte) value;
                    }
                    Check.gives(H, Check.hex(want), "share", t, i, x, coefficients);
                    all[k] = want;
                }
                Check.gives(H, Check.hex(x), "together", t, Check.join(all));
            }
        }
    }

    private static void badShares() {
        for (int t : new int[] {0, -1, 9, Integer.MAX_VALUE, Integer.MIN_VALUE}) {
            Check.refused(H, "-1", "share", t, 1, "aa", "");
            Check.refused(H, "-1", "share", t, 1, "aa", "00".repeat(8));
            Check.refused(H, "-1", "together", t, "010203");
        }
        for (int i : new int[] {0, -1, 256, Integer.MAX_VALUE}) {
            Check.refused(H, "-1", "share", 1, i, "aa", "");
        }
        Check.refused(H, "-1", "share", 1, 1, "", "");
        Check.refused(H, "-1", "share", 1, 1, "00".repeat(256), "");
        Check.refused(H, "-1", "share", 2, 1, "aabb", "00");
        Check.refused(H, "-1", "share", 1, 1, "aabb", "00");
        String[] bad = {"", "01", "0001", "01aa0100", "01aa00bb", "01aa02", "0102"};
        int[] needed = {1, 1, 1, 2, 2, 2, 2};
        for (int i = 0; i < bad.length; i++) {
            Check.refused(H, "-1", "together", needed[i], bad[i]);
        }
        Check.gives(H, "aa", "together", 1, "01aa");
        Check.gives(H, "07".repeat(4095), "together", 2, "01" + "07".repeat(4095) + "ff" + "07".repeat(4095));
        Check.gives(H, "09".repeat(8191), "together", 1, "33" + "09".repeat(8191));
    }

    private static String fixed(BigInteger v) {
        String s = v.toString(16);
        return "0".repeat(64 - s.length()) + s;
    }

    private static void checked() {
        for (int t = 1; t <= 8; t++) {
            BigInteger[] c = new BigInteger[t];
            StringBuilder row = new StringBuilder();
            StringBuilder pledge = new StringBuilder();
            for (int i = 0; i < t; i++) {
                c[i] = new BigInteger(250, RANDOM).add(BigInteger.ONE);
                row.append(fixed(c[i]));
                pledge.append(made("key", 0, fixed(c[i])));
            }
            Check.gives(H, pledge.toString(), "pledge", 0, row.toString());
            for (int i : new int[] {1, 2, 255}) {
                BigInteger value = BigInteger.ZERO;
                for (int k = t - 1; k >= 0; k--) {
                    value = value.multiply(BigInteger.valueOf(i)).add(c[k]).mod(Q);
                }
                Check.gives(H, fixed(value), "pledge", i, row.toString());
                String p = pledge.toString();
                Check.due("fits", Check.run(H, "fits", i, fixed(value), p), "1");
                Check.due("fits", Check.run(H, "fits", i, fixed(value.add(BigInteger.ONE).mod(Q)), p), "0");
                if (t > 1) {
                    Check.due("fits", Check.run(H, "fits", i == 255 ? 1 : i + 1, fixed(value), p), "0");
                }
            }
        }
    }

    private static void badChecked() {
        String one = fixed(BigInteger.ONE);
        String zero = fixed(BigInteger.ZERO);
        for (int i : new int[] {-1, 256, Integer.MAX_VALUE}) {
            Check.refused(H, "-1", "pledge", i, one);
            Check.due("fits", Check.run(H, "fits", i, one, made("key", 0, one)), "0");
        }
        Check.due("fits", Check.run(H, "fits", 0, one, made("key", 0, one)), "0");
        for (String bad : new String[] {"", one + "00", one.substring(2), fixed(Q), one + fixed(Q), one.repeat(9)}) {
            Check.refused(H, "-1", "pledge", 0, bad);
            Check.refused(H, "-1", "pledge", 5, bad);
        }
        Check.refused(H, "-1", "pledge", 0, zero);
        Check.refused(H, "-1", "pledge", 0, one + zero);
        Check.gives(H, one, "pledge", 9, one + zero);
        Check.gives(H, zero, "pledge", 9, zero);
        Check.due("eight", made("pledge", 0, one.repeat(8)).length(), 8 * 66);
        String p = made("key", 0, one);
        String whole = made("point", 0, 4, p, "");
        String minus = made("point", 0, 3, p, "");
        for (String bad : new String[] {"", "00", whole, p.substring(2), p + "00", "04" + p.substring(2), "02" + "ff".repeat(32), p.repeat(9)}) {
            Check.due("fits", Check.run(H, "fits", 1, one, bad), "0");
        }
        for (String bad : new String[] {"", one + "00", "01", fixed(Q.add(BigInteger.ONE))}) {
            Check.due("fits", Check.run(H, "fits", 1, bad, p), "0");
        }
        Check.due("a share of 0", Check.run(H, "fits", 1, zero, p + minus), "1");
        Check.due("a share of 0", Check.run(H, "fits", 2, zero, p + minus), "0");
    }

    private static BigInteger little(String hex) {
        byte[] b = Check.bytes(hex);
        byte[] turned = new byte[b.length];
        for (int i = 0; i < b.length; i++) {
            turned[b.length - 1 - i] = b[i];
        }
        return new BigInteger(1, turned);
    }

    private static String little(BigInteger v) {
        StringBuilder s = new StringBuilder();
        for (int i = 0; i < 32; i++) {
            s.append(String.format("%02x", v.shiftRight(8 * i).intValue() & 255));
        }
        return s.toString();
    }

    private static void nonces() {
        // RFC 9591's sample of the first signer.
        String n = made("jointNonces", "929dcc590407aae7d388761cddb0c0db6f5627aea8e217f4a033f2ec83d93509",
            "0fd2e39e111cdc266f6c0f4d0fd45c947761f1f5d3cb583dfcb9bbaf8d4c9fec"
            + "69cd85f631d5f7f2721ed5e40519b1366f340a87c2f6856363dbdcda348a7501");
        Check.due("nonces", n.substring(0, 128), "812d6104142944d5a55924de6d49940956206909f2acaeedecda2b726e630407"
            + "b1110165fc2334149750b28dd813a39244f315cff14d4e89e6142f262ed83301");
        Check.due("commitments", n.substring(128), made("point", 3, 0, n.substring(0, 64), "")
            + made("point", 3, 0, n.substring(64, 128), ""));
        Check.refused(H, "-1", "jointNonces", "00".repeat(31), "00".repeat(64));
        Check.refused(H, "-1", "jointNonces", "00".repeat(32), "00".repeat(63));
        Check.refused(H, "-1", "jointNonces", "00".repeat(32), "");
    }

    private static void joint(int signers) {
        BigInteger[] c = {new BigInteger(252, RANDOM), new BigInteger(252, RANDOM)};
        int[] ids = {1, 7, 255};
        String key = made("point", 3, 0, little(c[0]), "");
        String[] secrets = new String[signers];
        String[] nonces = new String[signers];
        StringBuilder list = new StringBuilder();
        for (int k = 0; k < signers; k++) {
            BigInteger value = signers == 1 ? c[0] : c[0].add(c[1].multiply(BigInteger.valueOf(ids[k])));
            secrets[k] = little(value.mod(L).add(k == 1 ? L : BigInteger.ZERO));
            nonces[k] = made("jointNonces", secrets[k], Check.hex(some(64)));
            list.append(String.format("%02x", ids[k])).append(nonces[k].substring(128));
        }
        String all = list.toString();
        StringBuilder shares = new StringBuilder();
        for (int k = 0; k < signers; k++) {
            shares.append(made("jointShare", ids[k], secrets[k], nonces[k], key, all, "616263"));
        }
        String signature = made("jointSign", all, shares.toString(), key, "616263");
        Check.due("jointly", Check.run(H, "verify", 3, 0, key, "616263", signature), "1");
        Check.due("jointly", Check.run(H, "verify", 3, 0, key, "6162", signature), "0");
        badJoint(secrets[0], nonces[0], key, all, shares.toString());
    }

    private static void badJoint(String secret, String nonces, String key, String list, String shares) {
        String neutral = "01" + "00".repeat(31);
        String none = "ff".repeat(32);
        for (int i : new int[] {0, -1, 2, 256, 257, Integer.MAX_VALUE}) {
            Check.refused(H, "-1", "jointShare", i, secret, nonces, key, list, "");
        }
        Check.refused(H, "-1", "jointShare", 1, secret.substring(2), nonces, key, list, "");
        Check.refused(H, "-1", "jointShare", 1, secret, nonces.substring(2), key, list, "");
        Check.refused(H, "-1", "jointShare", 1, secret, nonces.substring(0, 128), key, list, "");
        String first = list.substring(0, 130);
        String zero = "00" + first.substring(2) + list;
        String[] bad = {"", list + "00", list.substring(2), first + first, "07" + first.substring(2) + first, zero};
        for (String b : bad) {
            Check.refused(H, "-1", "jointShare", 1, secret, nonces, key, b, "");
            Check.refused(H, "-1", "jointSign", b, "00".repeat(b.length() / 130 * 32), key, "");
        }
        for (String b : new String[] {neutral, none}) {
            Check.refused(H, "-3", "jointShare", 1, secret, nonces, b, list, "");
            Check.refused(H, "-3", "jointSign", list, shares, b, "");
            String[] lists = {first.substring(0, 2) + b + list.substring(66), first.substring(0, 66) + b + list.substring(130)};
            for (String other : lists) {
                Check.refused(H, "-3", "jointShare", 1, secret, nonces, key, other, "");
                Check.refused(H, "-3", "jointSign", other, shares, key, "");
            }
            Check.refused(H, "-1", "jointSign", list, shares + "00", b, "");
        }
        Check.refused(H, "-1", "jointSign", list, little(L) + shares.substring(64), key, "");
        Check.refused(H, "-1", "jointSign", list, shares.substring(64), key, "");
        // The commitments behind the nonces are not compared with those of the list.
        String other = nonces.substring(0, 128) + none + none;
        Check.due("jointShare", Check.run(H, "jointShare", 1, secret, other, key, list, ""), "32");
        Check.due("added, not looked at", Check.run(H, "jointSign", list, "00".repeat(shares.length() / 2), key, ""), "64");
    }
}
