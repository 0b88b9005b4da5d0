import java.math.BigInteger;
import java.util.ArrayList;
import java.util.List;

/** For every call that reads rows, some that are done: their names and arguments, the rows as their bytes. */
final class Examples {
    private static final CryptHouse H = new CryptHouse();
    private static final List<Object[]> ALL = new ArrayList<>();

    private Examples() {
    }

    static List<Object[]> all() {
        if (ALL.isEmpty()) {
            rowsAndHashes();
            ciphers();
            numbers();
            rsa();
            curves();
            lattices();
            shares();
            joint();
            proofs();
            log();
        }
        return ALL;
    }

    private static void add(Object... call) {
        ALL.add(call);
    }

    /** Bytes that differ from each other and from those of another number; the first is not 0. */
    static byte[] some(int n, int number) {
        byte[] b = new byte[n];
        for (int i = 0; i < n; i++) {
            b[i] = (byte) (i * i * 7 + i * 31 + number * 59 + 1);
        }
        if (n > 0 && b[0] == 0) {
            b[0] = 1;
        }
        return b;
    }

    /** A number of 32 bytes below the orders of the curves, its highest byte the first. */
    static byte[] scalar(int number) {
        byte[] b = some(32, number);
        b[0] = (byte) (1 + number % 60);
        return b;
    }

    static byte[] made(String name, Object... args) {
        String answer = Check.run(H, name, args);
        byte[] b = Check.get(H, Check.TO);
        Check.due(name, answer, String.valueOf(b.length));
        return b;
    }

    private static void rowsAndHashes() {
        add("join", some(5, 1), some(9, 2));
        add("xor", some(9, 1), some(9, 2));
        add("cut", some(9, 1), 2, 5);
        for (int h = 0; h < 14; h++) {
            add("hash", h, 20, some(150, h));
        }
        for (int kind = 0; kind < 16; kind++) {
            add("sum", kind, 20, some(32, kind), some(32, kind + 1));
        }
        add("derive", 2, some(20, 1), some(20, 2), some(20, 3), 70);
        add("stretch", 3, some(10, 1), some(10, 2), 3, 70);
        add("scrypt", some(10, 1), some(10, 2), 4, 2, 2, 70);
    }

    private static void ciphers() {
        for (int back = 0; back < 2; back++) {
            for (int mode = 0; mode < 7; mode++) {
                byte[] x = some(mode < 2 || mode == 6 ? 32 : 37, mode);
                if (mode == 6 && back == 1) {
                    x = made("crypt", 0, 6, 0, some(16, 1), some(16, 2), some(21, 3));
                }
                add("crypt", 0, mode, back, some(mode == 5 ? 32 : 16, 1), some(mode == 0 ? 0 : 16, 2), x);
                if (mode < 5) {
                    add("crypt", 2, mode, back, some(24, 1), some(mode == 0 ? 0 : 8, 2), x);
                }
            }
            int[] sizes = {16, 24, 32, 16, 32};
            for (int kind = 0; kind < 5; kind++) {
                byte[] key = some(kind == 2 ? 64 : sizes[kind], 1);
                byte[] sealed = made("seal", kind, key, some(12, 2), some(12, 3), some(33, 4));
                add(back == 0 ? "seal" : "open", kind, key, some(12, 2), some(12, 3), back == 0 ? some(33, 4) : sealed);
            }
            byte[] digits = new byte[20];
            for (int i = 0; i < 20; i++) {
                digits[i] = (byte) (i % 10);
            }
            add("format", 10, back, some(16, 1), some(20, 2), digits);
        }
        add("stream", some(32, 1), some(12, 2), -1, some(70, 3));
        for (int padded = 0; padded < 2; padded++) {
            byte[] x = some(padded == 0 ? 32 : 29, 2);
            add("wrap", padded, 0, some(32, 1), x);
            add("wrap", padded, 1, some(32, 1), made("wrap", padded, 0, some(32, 1), x));
        }
    }

    private static void numbers() {
        for (int op = 0; op < 12; op++) {
            byte[] m = op == 9 || op == 11 ? Check.bytes(NumbersTest.bytes(BigInteger.TWO.pow(127).subtract(BigInteger.ONE))) : some(16, 3);
            byte[] a = op == 11 ? new byte[] {4} : some(16, 1);
            add("work", op, a, op == 1 ? some(15, 2) : some(16, 2), m);
        }
        add("prime", some(16, 1), 20);
        add("witness", new byte[] {7}, new byte[] {3}, new byte[] {2});
        byte[] n = some(21, 2);
        n[20] |= 1;
        add("delay", some(20, 1), n, 300);
        add("checkDelay", some(20, 1), n, 300, made("delay", some(20, 1), n, 300));
    }

    private static void rsa() {
        BigInteger p = new BigInteger("1000000000000000000000000000000000000000000000000000000000000000000000000000000000000", 16)
            .nextProbablePrime();
        BigInteger q = p.multiply(BigInteger.valueOf(77)).nextProbablePrime();
        BigInteger e = BigInteger.valueOf(65537);
        BigInteger d = e.modInverse(p.subtract(BigInteger.ONE).multiply(q.subtract(BigInteger.ONE)));
        byte[] n = Check.bytes(NumbersTest.bytes(p.multiply(q)));
        byte[] open = Check.bytes(NumbersTest.bytes(e));
        byte[] secret = Check.bytes(NumbersTest.bytes(d));
        byte[] x = some(11, 1);
        byte[] padding = new byte[n.length - 3 - x.length];
        java.util.Arrays.fill(padding, (byte) 9);
        add("rsa", 0, 0, n, open, x, some(25, 2));
        add("rsa", 1, 0, n, secret, made("rsa", 0, 0, n, open, x, some(25, 2)), java.util.Arrays.copyOfRange(some(25, 2), 20, 25));
        add("rsa", 2, 0, n, open, x, padding);
        add("rsa", 3, 0, n, secret, made("rsa", 2, 0, n, open, x, padding), some(3, 1));
        add("rsa", 4, 2, n, secret, x, some(11, 3));
        add("rsa", 5, 2, n, open, x, Check.join(new byte[] {11}, made("rsa", 4, 2, n, secret, x, some(11, 3))));
        add("rsa", 6, 2, n, secret, x, some(3, 1));
        add("rsa", 7, 2, n, open, x, made("rsa", 6, 2, n, secret, x, ""));
    }

    private static void curves() {
        for (int curve = 0; curve < 4; curve++) {
            int w = curve == 1 ? 48 : 32;
            byte[] a = Check.join(new byte[w - 32], scalar(1));
            byte[] g = made("point", curve, 0, a, "");
            byte[] other = made("point", curve, 0, scalar(2), "");
            for (int op = 0; op < 5; op++) {
                add("point", curve, op, op < 2 ? a : g, other);
            }
            add("agree", curve, a, curve == 3 ? made("key", 5, scalar(2)) : other);
        }
        for (int kind = 0; kind < 6; kind++) {
            byte[] secret = Check.join(new byte[kind == 1 ? 16 : 0], scalar(1));
            add("key", kind, secret);
            if (kind < 5) {
                add("sign", kind, 2, secret, some(32, 2), some(32, 3));
                byte[] key = made("key", kind, secret);
                add("verify", kind, 2, key, some(32, 2), made("sign", kind, 2, secret, some(32, 2), some(32, 3)));
            }
        }
        reused();
        for (int aead = 0; aead < 3; aead++) {
            byte[] key = made("key", 5, scalar(1));
            byte[] sealed = made("hybridSeal", aead, key, scalar(2), some(32, 3), some(32, 4), some(32, 5));
            add("hybridSeal", aead, key, scalar(2), some(32, 3), some(32, 4), some(32, 5));
            add("hybridOpen", aead, scalar(1), some(32, 3), some(32, 4), sealed);
        }
    }

    private static void reused() {
        BigInteger q = new BigInteger("ffffffff00000000ffffffffffffffffbce6faada7179e84f3b9cac2fc632551", 16);
        BigInteger k = new BigInteger(1, scalar(9));
        BigInteger r = new BigInteger(1, made("agree", 0, scalar(9), made("point", 0, 0, "01", ""))).mod(q);
        byte[][] s = new byte[2][];
        for (int i = 0; i < 2; i++) {
            BigInteger z = new BigInteger(1, Check.sha256(some(64, i)));
            s[i] = Check.join(fixed(r), fixed(z.add(r.multiply(new BigInteger(1, scalar(1)))).multiply(k.modInverse(q)).mod(q)));
        }
        add("reused", 0, 2, s[0], some(64, 0), s[1], some(64, 1));
    }

    static byte[] fixed(BigInteger v) {
        String s = v.toString(16);
        return Check.bytes("0".repeat(64 - s.length()) + s);
    }

    private static void lattices() {
        for (int kind = 0; kind < 3; kind++) {
            byte[] seeds = some(64, 1);
            add("capsuleKeys", kind, seeds);
            Check.run(H, "capsuleKeys", kind, seeds);
            byte[] sealing = Check.get(H, Check.TO - 1);
            byte[] opening = Check.get(H, Check.TO);
            add("capsule", kind, sealing, some(32, 2));
            Check.run(H, "capsule", kind, sealing, some(32, 2));
            add("uncapsule", kind, opening, Check.get(H, Check.TO - 1));
            add("latticeKeys", kind, some(32, 1));
            Check.run(H, "latticeKeys", kind, some(32, 1));
            byte[] open = Check.get(H, Check.TO - 1);
            byte[] secret = Check.get(H, Check.TO);
            add("latticeSign", kind, secret, some(32, 2), some(32, 3), some(32, 4));
            byte[] s = made("latticeSign", kind, secret, some(32, 2), some(32, 3), some(32, 4));
            add("latticeVerify", kind, open, some(32, 2), some(32, 3), s);
        }
    }

    private static void shares() {
        add("share", 3, 5, some(10, 1), some(20, 2));
        add("share", 2, 5, some(10, 1), some(10, 2));
        byte[] x = some(22, 1);
        x[0] = 1;
        x[11] = 2;
        add("together", 2, x);
        byte[] numbers = Check.join(scalar(1), scalar(2));
        add("pledge", 0, numbers);
        add("pledge", 7, numbers);
        add("fits", 7, made("pledge", 7, numbers), made("pledge", 0, numbers));
        add("jointNonces", scalar(1), some(64, 2));
    }

    private static void joint() {
        byte[] secret = scalar(1);
        byte[] nonces = made("jointNonces", secret, some(64, 2));
        byte[] key = made("point", 3, 0, secret, "");
        byte[] list = Check.join(new byte[] {5}, java.util.Arrays.copyOfRange(nonces, 64, 128));
        add("jointShare", 5, secret, nonces, key, list, some(65, 3));
        add("jointSign", list, made("jointShare", 5, secret, nonces, key, list, some(65, 3)), key, some(65, 3));
    }

    private static void proofs() {
        add("commit", scalar(1), scalar(2));
        byte[] q = made("key", 0, scalar(3));
        byte[] x = made("key", 0, scalar(1));
        byte[] y = made("point", 0, 1, scalar(1), q);
        add("proveSame", scalar(1), q, scalar(2));
        add("checkSame", x, q, y, made("proveSame", scalar(1), q, scalar(2)));
        for (int v = 0; v < 2; v++) {
            byte[] told = Check.join(scalar(1), scalar(2), scalar(3), scalar(4));
            add("proveBit", v, told);
            byte[] c = made("commit", Check.join(new byte[31], new byte[] {(byte) v}), scalar(1));
            add("checkBit", c, made("proveBit", v, told));
        }
    }

    private static void log() {
        byte[] leaf = {0};
        byte[] node = {1};
        byte[] first = Check.sha256(leaf, some(32, 1));
        byte[] second = Check.sha256(leaf, some(32, 2));
        byte[] head = Check.sha256(node, first, second);
        add("checkPath", 0, 2, some(32, 1), second, head);
        add("checkGrowth", 1, 2, first, head, second);
        add("leaf", some(32, 1));
        add("more", some(32, 1));
        add("put", 9, some(32, 1), 63, 5, 1, 0);
    }
}
