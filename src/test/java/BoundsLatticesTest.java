import java.nio.file.Files;
import java.nio.file.Path;
import java.util.Arrays;
import java.util.List;

/** The boundary cases of promises 19 to 22: ML-KEM and ML-DSA. What is due of many comes from src/test/lattices.txt. */
public final class BoundsLatticesTest {
    private static final int[] SEALING = {800, 1184, 1568};
    private static final int[] OPENING = {1632, 2400, 3168};
    private static final int[] CAPSULE = {768, 1088, 1568};
    private static final int[] OPEN = {1312, 1952, 2592};
    private static final int[] SECRET = {2560, 4032, 4896};
    private static final int[] SIGNATURE = {2420, 3309, 4627};
    private static final int[] OMEGA = {80, 55, 75};
    private static final int[] ROWS = {4, 6, 8};
    private static final Twin T = new Twin();
    private static List<String> lines;

    public static void main(String[] args) throws Exception {
        lines = Files.readAllLines(Path.of("src/test/lattices.txt"));
        for (int kind = 0; kind < 3; kind++) {
            seedSizes(kind);
            capsuleSizes(kind);
            sealingNumbers(kind);
            openingHashes(kind);
            oddKeys(kind);
            signSizes(kind);
            verifySizes(kind);
            contexts(kind);
            hintForms(kind);
            toldSignatures(kind);
            newObjects(kind);
        }
        edgeSignatures();
        lastTry();
        kinds();
        T.end();
        Check.end();
    }

    private static byte[] some(int n, int number) {
        return Examples.some(n, number);
    }

    private static String sum(byte[] b) {
        return Check.hex(Check.sha256(b));
    }

    /** A call that writes two rows: the answer is the size of the first. */
    private static byte[][] two(int first, int second, String name, Object... args) {
        T.answers(first, name, args);
        byte[][] made = {Check.get(T.seen, Check.TO - 1), Check.get(T.seen, Check.TO)};
        Check.due(name, made[0].length, first);
        Check.due(name, made[1].length, second);
        return made;
    }

    private static byte[][] kemKeys(int kind) {
        return two(SEALING[kind], OPENING[kind], "capsuleKeys", kind, Check.join(some(32, kind), some(32, kind + 9)));
    }

    private static byte[][] dsaKeys(int kind) {
        byte[] seed = new byte[32];
        Arrays.fill(seed, (byte) kind);
        return two(OPEN[kind], SECRET[kind], "latticeKeys", kind, seed);
    }

    /** "keys from d, z (64 bytes)"; "keys from 32 bytes"; "sizes other than told there: -1". */
    private static void seedSizes(int kind) {
        T.told("sizes other than told there: -1");
        for (int n : new int[] {0, 1, 31, 32, 33, 63, 64, 65, 96, 128, 8192}) {
            if (n == 64) {
                two(SEALING[kind], OPENING[kind], "capsuleKeys", kind, some(n, 1));
            } else {
                T.leaves(-1, "capsuleKeys", kind, some(n, 1));
            }
            if (n == 32) {
                two(OPEN[kind], SECRET[kind], "latticeKeys", kind, some(n, 1));
            } else {
                T.leaves(-1, "latticeKeys", kind, some(n, 1));
            }
        }
    }

    /** "sealing with m (32): a capsule and 32 bytes; opening: 32 bytes always". */
    private static void capsuleSizes(int kind) {
        byte[][] keys = kemKeys(kind);
        T.told("sizes other than told there: -1");
        for (int n : new int[] {0, 1, 31, 33, 64, 8192}) {
            T.leaves(-1, "capsule", kind, keys[0], some(n, 1));
        }
        int[] sizes = {0, 1, 32, 768, 800, 1088, 1184, 1568, 1632, 2400, 3168, 8192, SEALING[kind] - 1, SEALING[kind] + 1,
            CAPSULE[kind] - 1, CAPSULE[kind] + 1, OPENING[kind] - 1, OPENING[kind] + 1};
        for (int n : sizes) {
            if (n != SEALING[kind]) {
                T.leaves(-1, "capsule", kind, Arrays.copyOf(keys[0], n), some(32, 1));
            }
            if (n != OPENING[kind]) {
                T.leaves(-1, "uncapsule", kind, Arrays.copyOf(keys[1], n), some(CAPSULE[kind], 1));
            }
            if (n != CAPSULE[kind]) {
                T.leaves(-1, "uncapsule", kind, keys[1], some(n, 1));
            }
        }
        T.told("opening: 32 bytes always");
        byte[][] sealed = two(CAPSULE[kind], 32, "capsule", kind, keys[0], some(32, 3));
        T.gives(Check.hex(sealed[1]), "uncapsule", kind, keys[1], sealed[0]);
        byte[] z = Arrays.copyOfRange(keys[1], OPENING[kind] - 32, OPENING[kind]);
        for (int at : new int[] {0, 1, 319, 320, CAPSULE[kind] / 2, CAPSULE[kind] - 2, CAPSULE[kind] - 1}) {
            for (int bit = 0; bit < 8; bit++) {
                byte[] other = sealed[0].clone();
                other[at] ^= 1 << bit;
                T.gives(Check.hex(Sponge.shake(true, Check.join(z, other), 32)), "uncapsule", kind, keys[1], other);
            }
        }
        byte[] other = new byte[CAPSULE[kind]];
        T.gives(Check.hex(Sponge.shake(true, Check.join(z, other), 32)), "uncapsule", kind, keys[1], other);
        Arrays.fill(other, (byte) 255);
        T.gives(Check.hex(Sponge.shake(true, Check.join(z, other), 32)), "uncapsule", kind, keys[1], other);
    }

    private static byte[] withNumber(byte[] key, int i, int v) {
        byte[] b = key.clone();
        int at = i / 2 * 3;
        if (i % 2 == 0) {
            b[at] = (byte) v;
            b[at + 1] = (byte) (b[at + 1] & 0xf0 | v >> 8);
        } else {
            b[at + 1] = (byte) (b[at + 1] & 15 | v << 4);
            b[at + 2] = (byte) (v >> 4);
        }
        return b;
    }

    /** "a sealing key whose numbers are not below 3329: -3", each of them; behind -1. */
    private static void sealingNumbers(int kind) {
        byte[] key = kemKeys(kind)[0];
        T.told("a sealing key whose numbers are not below 3329: -3");
        int many = 256 * (kind + 2);
        for (int i = 0; i < many; i += i % 256 < 3 || i % 256 > 252 ? 1 : 25) {
            for (int v : new int[] {0, 3327, 3328, 3329, 3330, 4095}) {
                byte[] other = withNumber(key, i, v);
                if (v < 3329) {
                    two(CAPSULE[kind], 32, "capsule", kind, other, some(32, 1));
                } else {
                    T.leaves(-3, "capsule", kind, other, some(32, 1));
                    T.leaves(-1, "capsule", kind, other, some(31, 1));
                    T.leaves(-1, "capsule", kind, Check.join(other, new byte[1]), some(32, 1));
                }
            }
        }
        // The last 32 bytes are no numbers.
        byte[] other = key.clone();
        Arrays.fill(other, other.length - 32, other.length, (byte) 255);
        two(CAPSULE[kind], 32, "capsule", kind, other, some(32, 1));
    }

    /** "an opening key whose hash of the sealing key is another one: -3". */
    private static void openingHashes(int kind) {
        byte[] key = kemKeys(kind)[1];
        byte[] capsule = some(CAPSULE[kind], 1);
        int own = 384 * (kind + 2);
        T.told("an opening key whose hash of the sealing key is another one: -3");
        for (int at = own; at < own + SEALING[kind] + 32; at += at < own + SEALING[kind] - 1 ? 31 : 1) {
            byte[] other = key.clone();
            other[at] ^= 1;
            T.leaves(-3, "uncapsule", kind, other, capsule);
            T.leaves(-1, "uncapsule", kind, other, some(CAPSULE[kind] - 1, 1));
            T.leaves(-1, "uncapsule", kind, Check.join(other, new byte[1]), capsule);
        }
        for (int at : new int[] {0, own - 1, own + SEALING[kind] + 32, OPENING[kind] - 1}) {
            byte[] other = key.clone();
            other[at] ^= 1;
            T.made(32, "uncapsule", kind, other, capsule);
        }
    }

    /** Opening keys whose numbers are not below 3329: only the hash is asked for. */
    private static void oddKeys(int kind) {
        for (String line : lines) {
            String[] w = line.split(" ");
            if (!w[0].equals("kem") || Integer.parseInt(w[1]) != kind) {
                continue;
            }
            byte[][] keys = kemKeys(kind);
            byte[][] sealed = two(CAPSULE[kind], 32, "capsule", kind, keys[0], some(32, 3));
            T.told("ML-KEM by a model");
            Check.due("sealing key", sum(keys[0]), w[2]);
            Check.due("opening key", sum(keys[1]), w[3]);
            Check.due("capsule", sum(sealed[0]), w[4]);
            Check.due("shared", Check.hex(sealed[1]), w[5]);
            byte[] odd = raised(keys[1], 0);
            T.gives(w[6], "uncapsule", kind, odd, sealed[0]);
            odd = raised(keys[1], 384 * (kind + 2));
            Check.run(T.seen, "hash", 7, 0, Arrays.copyOfRange(odd, 384 * (kind + 2), 384 * (kind + 2) + SEALING[kind]));
            System.arraycopy(Check.get(T.seen, Check.TO), 0, odd, OPENING[kind] - 64, 32);
            T.gives(w[7], "uncapsule", kind, odd, sealed[0]);
            T.gives(w[9], "uncapsule", kind, odd, Check.bytes(w[8]));
        }
    }

    /** The first 256 numbers from a place on have 3329 added where they stay below 4096. */
    private static byte[] raised(byte[] key, int from) {
        byte[] part = Arrays.copyOfRange(key, from, from + 384);
        for (int i = 0; i < 256; i++) {
            int at = i / 2 * 3;
            int v = i % 2 == 0 ? part[at] & 255 | (part[at + 1] & 15) << 8 : (part[at + 1] & 255) >> 4 | (part[at + 2] & 255) << 4;
            part = v + 3329 < 4096 ? withNumber(part, i, v + 3329) : part;
        }
        byte[] other = key.clone();
        System.arraycopy(part, 0, other, from, 384);
        return other;
    }

    /** "signing (pure) with a context of at most 255 bytes and 32 bytes of help". */
    private static void signSizes(int kind) {
        byte[] secret = dsaKeys(kind)[1];
        T.told("sizes other than told there: -1");
        for (int n : new int[] {0, 1, 2560, 4032, 4896, 8192, SECRET[kind] - 1, SECRET[kind] + 1}) {
            if (n != SECRET[kind]) {
                T.leaves(-1, "latticeSign", kind, Arrays.copyOf(secret, n), "61", "", some(32, 1));
            }
        }
        for (int n : new int[] {0, 1, 31, 33, 64, 8192}) {
            T.leaves(-1, "latticeSign", kind, secret, "61", "", some(n, 1));
        }
        T.told("a context of at most 255 bytes");
        for (int n : new int[] {256, 257, 511, 512, 8192}) {
            T.leaves(-1, "latticeSign", kind, secret, "61", some(n, 1), some(32, 1));
        }
    }

    /** "verified: 1, or 0 (also other sizes; a context too long)". */
    private static void verifySizes(int kind) {
        byte[][] keys = dsaKeys(kind);
        byte[] s = Check.bytes(T.made(SIGNATURE[kind], "latticeSign", kind, keys[1], "61", "", new byte[32]));
        T.told("1, or 0 (also other sizes; a context too long)");
        T.leaves(1, "latticeVerify", kind, keys[0], "61", "", s);
        for (int n : new int[] {0, 1, 32, 1312, 1952, 2420, 2592, 3309, 4627, 8192, OPEN[kind] - 1, OPEN[kind] + 1,
            SIGNATURE[kind] - 1, SIGNATURE[kind] + 1}) {
            if (n != OPEN[kind]) {
                T.leaves(0, "latticeVerify", kind, Arrays.copyOf(keys[0], n), "61", "", s);
            }
            if (n != SIGNATURE[kind]) {
                T.leaves(0, "latticeVerify", kind, keys[0], "61", "", Arrays.copyOf(s, n));
            }
        }
        for (int at = 0; at < s.length; at += 37) {
            byte[] other = s.clone();
            other[at] ^= 1;
            T.leaves(0, "latticeVerify", kind, keys[0], "61", "", other);
        }
        for (int at = 0; at < keys[0].length; at += 97) {
            byte[] other = keys[0].clone();
            other[at] ^= 1;
            T.leaves(0, "latticeVerify", kind, other, "61", "", s);
        }
        for (int v : new int[] {0, 255}) {
            byte[] other = new byte[SIGNATURE[kind]];
            Arrays.fill(other, (byte) v);
            T.leaves(0, "latticeVerify", kind, keys[0], "61", "", other);
        }
    }

    private static void contexts(int kind) {
        byte[][] keys = dsaKeys(kind);
        T.told("a context of at most 255 bytes");
        for (int n : new int[] {0, 1, 254, 255}) {
            byte[] context = some(n, 1);
            for (int size : new int[] {0, 1, 8192}) {
                byte[] x = some(size, 2);
                String s = T.made(SIGNATURE[kind], "latticeSign", kind, keys[1], x, context, some(32, 3));
                T.leaves(1, "latticeVerify", kind, keys[0], x, context, s);
                T.leaves(0, "latticeVerify", kind, keys[0], x, some(n + 1 & 255, 1), s);
                if (n > 0 && size < 8000) {
                    // The context's size is hashed, so that it can't be told as a part of the text.
                    T.leaves(0, "latticeVerify", kind, keys[0], Check.join(context, x), "", s);
                }
            }
        }
        T.told("a context too long");
        // A text that begins with 256 bytes, as if these were a context whose size goes round.
        byte[] s = Check.bytes(T.made(SIGNATURE[kind], "latticeSign", kind, keys[1], some(300, 4), "", new byte[32]));
        T.leaves(1, "latticeVerify", kind, keys[0], some(300, 4), "", s);
        byte[] all = some(300, 4);
        T.leaves(0, "latticeVerify", kind, keys[0], Arrays.copyOfRange(all, 256, 300), Arrays.copyOf(all, 256), s);
        T.told("32 bytes of help (0s: determined)");
        String one = T.made(SIGNATURE[kind], "latticeSign", kind, keys[1], "61", "", new byte[32]);
        T.gives(one, "latticeSign", kind, keys[1], "61", "", new byte[32]);
        Check.due("other help", T.made(SIGNATURE[kind], "latticeSign", kind, keys[1], "61", "", some(32, 1)).equals(one), false);
    }

    /** Signatures whose hints are written otherwise: only rising ones, with 0s behind them, are any. */
    private static void hintForms(int kind) {
        byte[][] keys = dsaKeys(kind);
        int omega = OMEGA[kind];
        int from = SIGNATURE[kind] - omega - ROWS[kind];
        for (int text = 0; text < 4; text++) {
            byte[] x = {(byte) text, 9};
            byte[] s = Check.bytes(T.made(SIGNATURE[kind], "latticeSign", kind, keys[1], x, "", new byte[32]));
            int many = s[s.length - 1] & 255;
            T.told("FIPS 204: verified");
            T.leaves(1, "latticeVerify", kind, keys[0], x, "", s);
            int[] ends = new int[ROWS[kind] + 1];
            for (int i = 0; i < ROWS[kind]; i++) {
                ends[i + 1] = s[from + omega + i] & 255;
            }
            for (int i = 0; i < ROWS[kind]; i++) {
                // Two hints of one polynomial in the other order.
                for (int k = ends[i]; k + 1 < ends[i + 1]; k++) {
                    byte[] other = s.clone();
                    other[from + k] = s[from + k + 1];
                    other[from + k + 1] = s[from + k];
                    T.leaves(0, "latticeVerify", kind, keys[0], x, "", other);
                }
                // A hint twice, the others one place on.
                if (many < omega && ends[i] < ends[i + 1]) {
                    byte[] other = s.clone();
                    System.arraycopy(s, from + ends[i], other, from + ends[i] + 1, many - ends[i]);
                    for (int k = i; k < ROWS[kind]; k++) {
                        other[from + omega + k]++;
                    }
                    T.leaves(0, "latticeVerify", kind, keys[0], x, "", other);
                }
                byte[] other = s.clone();
                other[from + omega + i] = (byte) (omega + 1);
                T.leaves(0, "latticeVerify", kind, keys[0], x, "", other);
                other[from + omega + i] = (byte) 255;
                T.leaves(0, "latticeVerify", kind, keys[0], x, "", other);
                other[from + omega + i] = 0;
                T.leaves(0, "latticeVerify", kind, keys[0], x, "", other);
            }
            for (int k = many; k < omega; k++) {
                byte[] other = s.clone();
                other[from + k] = 1;
                T.leaves(0, "latticeVerify", kind, keys[0], x, "", other);
                other[from + k] = (byte) 255;
                T.leaves(0, "latticeVerify", kind, keys[0], x, "", other);
            }
        }
    }

    private static byte[] little(int v, int n) {
        byte[] b = new byte[n];
        for (int i = 0; i < n; i++) {
            b[i] = (byte) (v >> 8 * i);
        }
        return b;
    }

    /** A signature that would be right, but for a z that reaches its bound; and such with hints where few are. */
    private static void toldSignatures(int kind) {
        byte[][] keys = dsaKeys(kind);
        for (String line : lines) {
            String[] w = line.split(" ");
            if (w.length < 3 || !w[1].equals(String.valueOf(kind))) {
                continue;
            }
            int number = w[0].equals("far") || w[0].equals("hint") || w[0].equals("context") ? Integer.parseInt(w[2]) : 0;
            if (w[0].equals("far")) {
                T.told("FIPS 204: z reaches its bound");
                T.leaves(0, "latticeVerify", kind, keys[0], little(number, 2), "", w[3]);
            } else if (w[0].equals("hint")) {
                T.told("FIPS 204: a hint where the low part is 0 or 1");
                T.leaves(1, "latticeVerify", kind, keys[0], little(number, 3), "", w[3]);
            } else if (w[0].equals("context")) {
                T.told("signing (pure) with a context");
                String s = T.made(SIGNATURE[kind], "latticeSign", kind, keys[1], some(70, 2), some(number, 1), some(32, 3));
                Check.due(line.substring(0, 13), sum(Check.bytes(s)), w[3]);
            }
        }
    }

    /** What one object has sealed or signed opens and is verified in a new one, which has no other numbers at hand. */
    private static void newObjects(int kind) {
        byte[][] kem = kemKeys(kind);
        byte[][] sealed = two(CAPSULE[kind], 32, "capsule", kind, kem[0], some(32, 8));
        byte[][] keys = dsaKeys(kind);
        String s = T.made(SIGNATURE[kind], "latticeSign", kind, keys[1], "61", "62", some(32, 3));
        Check.gives(new CryptHouse(), Check.hex(sealed[1]), "uncapsule", kind, kem[1], sealed[0]);
        Check.due("capsule", Check.run(new CryptHouse(), "capsule", kind, kem[0], some(32, 8)), String.valueOf(CAPSULE[kind]));
        Check.gives(new CryptHouse(), s, "latticeSign", kind, keys[1], "61", "62", some(32, 3));
        Check.due("verify", Check.run(new CryptHouse(), "latticeVerify", kind, keys[0], "61", "62", s), "1");
        Check.due("verify", Check.run(new CryptHouse(), "latticeVerify", kind, keys[0], "61", "", s), "0");
    }

    private static void edgeSignatures() {
        for (String line : lines) {
            String[] w = line.split(" ");
            if (w[0].equals("sign")) {
                int kind = Integer.parseInt(w[1]);
                byte[][] keys = dsaKeys(kind);
                byte[] x = little(Integer.parseInt(w[3]), 3);
                T.told("FIPS 204: case " + w[2]);
                String s = T.made(SIGNATURE[kind], "latticeSign", kind, keys[1], x, "", new byte[32]);
                Check.due(line, sum(Check.bytes(s)), w[4]);
                T.leaves(1, "latticeVerify", kind, keys[0], x, "", s);
                emptyHints(kind, keys[0], x, Check.bytes(s));
            } else if (w[0].equals("sample")) {
                int kind = Integer.parseInt(w[1]);
                byte[][] keys = two(OPEN[kind], SECRET[kind], "latticeKeys", kind, w[2]);
                Check.due(line, sum(keys[0]) + sum(keys[1]), w[3] + w[4]);
            }
        }
    }

    /** Counts that may not be, of a polynomial that has no hints, so that no hint would change by them. */
    private static void emptyHints(int kind, byte[] open, byte[] x, byte[] s) {
        int counts = s.length - ROWS[kind];
        for (int i = 0; i < ROWS[kind]; i++) {
            int before = i == 0 ? 0 : s[counts + i - 1] & 255;
            if ((s[counts + i] & 255) != before) {
                continue;
            }
            for (int bad : new int[] {before - 1, before + 1, 0, OMEGA[kind] + 1, 255}) {
                if (bad != before && bad >= 0) {
                    T.leaves(1, "latticeVerify", kind, open, x, "", s);
                    byte[] other = s.clone();
                    other[counts + i] = (byte) bad;
                    T.leaves(0, "latticeVerify", kind, open, x, "", other);
                }
            }
        }
    }

    /** "at most 814 tries (-3 if none of them gives a signature: keys made here don't meet that)". */
    private static void lastTry() {
        String slow = "";
        for (String line : lines) {
            slow = line.startsWith("slow ") ? line.substring(5) : slow;
        }
        for (String line : lines) {
            String[] w = line.split(" ");
            if (w[0].equals("tries")) {
                byte[] x = little(Integer.parseInt(w[1]), 3);
                T.told("at most 814 tries (-3 if none of them gives a signature)");
                if (Integer.parseInt(w[2]) < 814) {
                    String s = T.made(SIGNATURE[0], "latticeSign", 0, slow, x, "", new byte[32]);
                    Check.due(line, sum(Check.bytes(s)), w[3]);
                } else {
                    T.leaves(-3, "latticeSign", 0, slow, x, "", new byte[32]);
                    T.leaves(-1, "latticeSign", 0, slow, x, "", new byte[31]);
                    T.leaves(-1, "latticeSign", 0, slow, x, new byte[256], new byte[32]);
                }
            }
        }
    }

    /** "kinds 0 .. 2". */
    private static void kinds() {
        T.told("kinds 0 .. 2");
        for (int kind : new int[] {-1, 3, Integer.MIN_VALUE, Integer.MAX_VALUE}) {
            T.thrown("capsuleKeys", kind, "");
            T.thrown("capsule", kind, "", "");
            T.thrown("uncapsule", kind, "", "");
            T.thrown("latticeKeys", kind, "");
            T.thrown("latticeSign", kind, "", "", "", "");
            T.thrown("latticeVerify", kind, "", "", "", "");
        }
    }
}
