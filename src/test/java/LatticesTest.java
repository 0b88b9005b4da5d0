import java.util.Random;

/** Promises 19 to 22: ML-KEM and ML-DSA, beside the vectors. */
public final class LatticesTest {
    private static final int[] SEALING = {800, 1184, 1568};
    private static final int[] OPENING = {1632, 2400, 3168};
    private static final int[] CAPSULE = {768, 1088, 1568};
    private static final int[] OPEN = {1312, 1952, 2592};
    private static final int[] SECRET = {2560, 4032, 4896};
    private static final int[] SIGNATURE = {2420, 3309, 4627};
    /** What a plain model of FIPS 203 and FIPS 204, which agrees with OpenSSL's keys and signatures, hashes of many. */
    private static final String[] ALL_CAPSULES = {
        "7c0b1518048e13793890e02cd53889a7ff185dad612be233c534a204935fa62b",
        "602bd6767f8694de4f30844fa88538aa1354297518f6fd3ee9492b514cdda81b",
        "9295d3e2dcec209ba806797fa1e2cc499dc61165986072053f2a9ed49c90c8b3"
    };
    private static final String[] ALL_SIGNATURES = {
        "1ebd5f964632d7b9fd05f8619d8c37550685c61a0cdcf482b50c636a590ec18e",
        "075fc5738e8b742912c38345064fe801986844e6dea1ffe01a9ed02ff7e20853",
        "71001e430c4e988f66d5380f8e45438444452bbdc652e50bb427f71c502e7b8d"
    };
    private static final Random RANDOM = new Random(5);
    private static final CryptHouse H = new CryptHouse();

    public static void main(String[] args) {
        for (int kind = 0; kind < 3; kind++) {
            capsules(kind);
            badCapsules(kind);
            signatures(kind);
            badSignatures(kind);
            manyCapsules(kind);
            manySignatures(kind);
        }
        Check.end();
    }

    private static byte[] told(int kind, int i, int part) {
        byte[] b = {(byte) kind, (byte) i, (byte) part};
        return Check.sha256(b);
    }

    private static void manyCapsules(int kind) {
        byte[] all = new byte[32];
        for (int i = 0; i < 150; i++) {
            Check.row(H, 0, Check.join(told(kind, i, 0), told(kind, i, 1)));
            H.capsuleKeys(kind, 0, 1, 2);
            Check.row(H, 3, told(kind, i, 2));
            H.capsule(kind, 1, 3, 4, 5);
            byte[] other = Check.get(H, 4);
            other[0] ^= 1;
            Check.row(H, 6, other);
            H.uncapsule(kind, 2, 6, 6);
            all = Check.sha256(all, Check.get(H, 1), Check.get(H, 2), Check.get(H, 4), Check.get(H, 5), Check.get(H, 6));
        }
        Check.due("many capsules", Check.hex(all), ALL_CAPSULES[kind]);
    }

    private static void manySignatures(int kind) {
        byte[] all = new byte[32];
        H.fill(0, 0, 4);
        H.fill(32, 0, 5);
        for (int i = 0; i < 30; i++) {
            Check.row(H, 0, told(kind, i, 3));
            H.latticeKeys(kind, 0, 1, 2);
            byte[] x = {(byte) kind, (byte) i};
            Check.row(H, 3, x);
            H.latticeSign(kind, 2, 3, 4, 5, 6);
            all = Check.sha256(all, Check.get(H, 1), Check.get(H, 2), Check.get(H, 6));
        }
        Check.due("many signatures", Check.hex(all), ALL_SIGNATURES[kind]);
    }

    private static byte[] some(int n) {
        byte[] b = new byte[n];
        RANDOM.nextBytes(b);
        return b;
    }

    private static void capsules(int kind) {
        byte[] seeds = some(64);
        Check.row(H, 0, seeds);
        Check.due("keys", H.capsuleKeys(kind, 0, 1, 2), SEALING[kind]);
        Check.due("keys", H.size(1), SEALING[kind]);
        Check.due("keys", H.size(2), OPENING[kind]);
        byte[] opening = Check.get(H, 2);
        // Told last: where both are one row, the opening key stays; the seeds may be in it, too.
        Check.due("keys", H.capsuleKeys(kind, 0, 0, 0), SEALING[kind]);
        Check.due("one row", Check.text(H, 0), Check.hex(opening));
        Check.row(H, 3, some(32));
        Check.due("capsule", H.capsule(kind, 1, 3, 4, 5), CAPSULE[kind]);
        Check.due("capsule", H.size(4), CAPSULE[kind]);
        Check.due("shared", H.size(5), 32);
        String shared = Check.text(H, 5);
        Check.due("uncapsule", H.uncapsule(kind, 2, 4, 6), 32);
        Check.due("uncapsule", Check.text(H, 6), shared);
        byte[] capsule = Check.get(H, 4);
        capsule[7] ^= 1;
        Check.due("another capsule", Check.run(H, "uncapsule", kind, opening, capsule), "32");
        String rejected = Check.text(H, Check.TO);
        Check.due("another secret", rejected.equals(shared), false);
        Check.run(H, "hash", 11, 32, Check.join(java.util.Arrays.copyOfRange(opening, opening.length - 32, opening.length), capsule));
        Check.due("from z", rejected, Check.text(H, Check.TO));
        Check.row(H, 0, seeds);
        H.capsuleKeys(kind, 0, 1, 2);
        Check.due("capsule", H.capsule(kind, 1, 3, 3, 3), CAPSULE[kind]);
        Check.due("one row", Check.text(H, 3), shared);
    }

    private static void badCapsules(int kind) {
        for (int n : new int[] {0, 32, 63, 65}) {
            Check.row(H, 0, some(n));
            Check.row(H, 1, "01");
            Check.due("seeds", H.capsuleKeys(kind, 0, 1, 1), -1);
            Check.due("left", Check.text(H, 1), "01");
        }
        Check.row(H, 0, some(64));
        H.capsuleKeys(kind, 0, 1, 2);
        byte[] sealing = Check.get(H, 1);
        byte[] opening = Check.get(H, 2);
        byte[] capsule = some(CAPSULE[kind]);
        byte[] m = some(32);
        byte[] high = sealing.clone();
        high[0] = 1;
        high[1] = (byte) (high[1] & 0xf0 | 0x0d);
        for (int i = 0; i < 4; i++) {
            byte[] key = i == 0 ? java.util.Arrays.copyOf(sealing, sealing.length - 1)
                : i == 1 ? Check.join(sealing, new byte[1]) : i == 2 ? high : sealing;
            Check.row(H, 5, key);
            Check.row(H, 6, i == 3 ? java.util.Arrays.copyOf(m, 31) : m);
            Check.row(H, 7, "01");
            Check.row(H, 8, "02");
            Check.due("capsule", H.capsule(kind, 5, 6, 7, 8), i == 2 ? -3 : -1);
            Check.due("left", Check.text(H, 7) + Check.text(H, 8), "0102");
        }
        // 3328 is the greatest number that may be.
        high[0] = 0;
        Check.row(H, 5, high);
        Check.row(H, 6, m);
        Check.due("capsule", H.capsule(kind, 5, 6, 7, 8), CAPSULE[kind]);
        Check.refused(H, "-1", "uncapsule", kind, java.util.Arrays.copyOf(opening, opening.length - 1), capsule);
        Check.refused(H, "-1", "uncapsule", kind, opening, java.util.Arrays.copyOf(capsule, capsule.length - 1));
        Check.refused(H, "-1", "uncapsule", kind, opening, "");
        int n = 384 * (kind + 2);
        for (int at : new int[] {n, n + sealing.length - 1, n + sealing.length, n + sealing.length + 31}) {
            byte[] other = opening.clone();
            other[at] ^= 8;
            Check.refused(H, "-3", "uncapsule", kind, other, capsule);
        }
        opening[0] ^= 8;
        Check.due("uncapsule", Check.run(H, "uncapsule", kind, opening, capsule), "32");
    }

    private static void signatures(int kind) {
        Check.row(H, 0, some(32));
        Check.due("keys", H.latticeKeys(kind, 0, 1, 2), OPEN[kind]);
        Check.due("keys", H.size(2), SECRET[kind]);
        byte[] open = Check.get(H, 1);
        byte[] secret = Check.get(H, 2);
        Check.due("keys", H.latticeKeys(kind, 0, 0, 0), OPEN[kind]);
        Check.due("one row", Check.text(H, 0), Check.hex(secret));
        for (int n : new int[] {0, 1, 255}) {
            byte[] x = some(40);
            byte[] context = some(n);
            byte[] help = n == 0 ? new byte[32] : some(32);
            Check.due("sign", Check.run(H, "latticeSign", kind, secret, x, context, help), String.valueOf(SIGNATURE[kind]));
            byte[] s = Check.get(H, Check.TO);
            Check.due("verify", Check.run(H, "latticeVerify", kind, open, x, context, s), "1");
            Check.due("verify", Check.run(H, "latticeVerify", kind, open, "00", context, s), "0");
            Check.due("verify", Check.run(H, "latticeVerify", kind, open, x, some(7), s), "0");
            Check.due("verify", Check.run(H, "latticeVerify", kind, some(open.length), x, context, s), "0");
            for (int i = 0; i < s.length; i += 331) {
                byte[] other = s.clone();
                other[i] ^= 16;
                Check.due("verify " + i, Check.run(H, "latticeVerify", kind, open, x, context, other), "0");
            }
            byte[] other = s.clone();
            other[s.length - 1]++;
            Check.due("verify", Check.run(H, "latticeVerify", kind, open, x, context, other), "0");
            Check.due("verify", Check.run(H, "latticeVerify", kind, open, x, context, Check.join(s, new byte[1])), "0");
            Check.due("verify", Check.run(H, "latticeVerify", kind, open, x, context, ""), "0");
            Check.due("verify", Check.run(H, "latticeVerify", kind, Check.join(open, new byte[1]), x, context, s), "0");
            Check.due("verify", Check.run(H, "latticeVerify", kind, open, x, some(256), s), "0");
        }
    }

    private static void badSignatures(int kind) {
        Check.row(H, 0, some(31));
        Check.row(H, 1, "01");
        Check.due("seed", H.latticeKeys(kind, 0, 1, 1), -1);
        Check.due("left", Check.text(H, 1), "01");
        Check.row(H, 0, some(32));
        H.latticeKeys(kind, 0, 1, 2);
        byte[] secret = Check.get(H, 2);
        Check.refused(H, "-1", "latticeSign", kind, java.util.Arrays.copyOf(secret, secret.length - 1), "00", "", some(32));
        Check.refused(H, "-1", "latticeSign", kind, secret, "00", some(256), some(32));
        Check.refused(H, "-1", "latticeSign", kind, secret, "00", "", some(31));
        Check.refused(H, "-1", "latticeSign", kind, secret, "00", "", "");
    }
}
