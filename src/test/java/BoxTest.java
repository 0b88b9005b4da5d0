import java.util.Random;
import javax.crypto.Cipher;
import javax.crypto.Mac;
import javax.crypto.spec.GCMParameterSpec;
import javax.crypto.spec.SecretKeySpec;

/** Promises 32 to 35: the box, its acts and their trail, against a model of it that is told in the plainest words. */
public final class BoxTest {
    private static final Random RANDOM = new Random(9);
    private static CryptHouse h;
    private static byte[] trail;
    private static final byte[][] KEYS = new byte[16][];
    private static final int[][] MARKS = new int[16][5];

    public static void main(String[] args) throws Exception {
        for (int run = 0; run < 60; run++) {
            h = new CryptHouse();
            trail = new byte[32];
            java.util.Arrays.fill(KEYS, null);
            for (int i = 0; i < 200; i++) {
                step();
            }
            looks();
        }
        puts();
        order();
        sizes();
        Check.end();
    }

    private static void write(int act, int role, int place, int answer) {
        byte[] more = {(byte) act, (byte) role, (byte) place, (byte) answer};
        trail = Check.sha256(trail, more);
    }

    private static byte[] some(int n) {
        byte[] b = new byte[n];
        RANDOM.nextBytes(b);
        return b;
    }

    private static void step() throws Exception {
        int place = RANDOM.nextInt(3) * 7;
        int role = RANDOM.nextInt(3);
        int what = RANDOM.nextInt(14);
        if (what < 2) {
            put(place, role);
        } else if (what == 2) {
            int want = KEYS[place] == null ? -4 : MARKS[place][2] == role ? -5 : 0;
            if (want == 0) {
                MARKS[place][4] |= 1 << role;
                want = Integer.bitCount(MARKS[place][4]);
                write(6, role, place, want);
            }
            Check.due("approve", h.approve(place, role), want);
        } else if (what == 3 && RANDOM.nextInt(3) == 0) {
            int want = KEYS[place] == null ? -4 : MARKS[place][2] != role ? -5 : 0;
            if (want == 0) {
                KEYS[place] = null;
                write(7, role, place, 0);
            }
            Check.due("drop", h.drop(place, role), want);
        } else {
            act(what % 5, role, place, RANDOM.nextInt(3) * 7);
        }
        Check.due("trail", h.trail(9), 32);
        Check.due("trail", Check.text(h, 9), Check.hex(trail));
    }

    private static void put(int place, int role) {
        int[] lengths = {16, 24, 32, 20, 8, 64};
        byte[] key = some(lengths[RANDOM.nextInt(6)]);
        int rights = RANDOM.nextInt(4) == 0 ? RANDOM.nextInt(64) : 63;
        int uses = 1 + RANDOM.nextInt(4);
        int quorum = RANDOM.nextInt(2) * RANDOM.nextInt(4);
        Check.row(h, 0, key);
        int want = -4;
        if (KEYS[place] == null) {
            want = key.length;
            KEYS[place] = key;
            MARKS[place] = new int[] {rights, uses, role, quorum, 0};
            write(5, 0, place, want);
        }
        Check.due("put", h.put(place, 0, rights, uses, role, quorum), want);
    }

    private static byte[] gcm(int mode, byte[] key, byte[] nonce, byte[] x) throws Exception {
        Cipher c = Cipher.getInstance("AES/GCM/NoPadding");
        c.init(mode, new SecretKeySpec(key, "AES"), new GCMParameterSpec(128, nonce));
        return c.doFinal(x);
    }

    private static byte[] hmac(byte[] key, byte[] x) throws Exception {
        Mac m = Mac.getInstance("HmacSHA256");
        m.init(new SecretKeySpec(key, "any"));
        return m.doFinal(x);
    }

    private static void act(int what, int role, int place, int k) throws Exception {
        int source = 1 + RANDOM.nextInt(3);
        if (RANDOM.nextInt(4) == 0) {
            Check.row(h, source, some(RANDOM.nextInt(60)));
        }
        byte[] x = Check.get(h, source);
        int[] mark = MARKS[place];
        int want = KEYS[place] == null ? -4 : mark[2] != role ? -5
            : (mark[0] & new int[] {1, 2, 4, 8, 32}[what]) == 0 ? -6 : mark[1] == 0 ? -7
            : Integer.bitCount(mark[4]) < mark[3] ? -8 : 0;
        byte[] made = null;
        if (want == 0) {
            byte[] key = KEYS[place];
            boolean aes = key.length == 16 || key.length == 24 || key.length == 32;
            byte[] nonce = java.util.Arrays.copyOf(trail, 12);
            want = -1;
            if (what == 0 && aes) {
                made = Check.join(nonce, gcm(Cipher.ENCRYPT_MODE, key, nonce, x));
            } else if (what == 1 && aes && x.length >= 28) {
                want = -3;
                try {
                    made = gcm(Cipher.DECRYPT_MODE, key, java.util.Arrays.copyOf(x, 12), java.util.Arrays.copyOfRange(x, 12, x.length));
                } catch (javax.crypto.AEADBadTagException e) {
                    made = null;
                }
            } else if (what == 2) {
                made = hmac(key, x);
            } else if (what == 3) {
                want = KEYS[k] == null ? -4 : (MARKS[k][0] & 16) == 0 ? -6 : -1;
                if (want == -1 && aes && KEYS[k].length % 8 == 0 && KEYS[k].length >= 16) {
                    Cipher c = Cipher.getInstance("AESWrap");
                    c.init(Cipher.WRAP_MODE, new SecretKeySpec(key, "AES"));
                    made = c.wrap(new SecretKeySpec(KEYS[k], "any"));
                }
            } else if (what == 4) {
                made = hmac(hmac(new byte[32], key), Check.join(x, new byte[] {1}));
            }
        }
        int to = 1 + RANDOM.nextInt(4);
        byte[] before = Check.get(h, to);
        if (made != null) {
            want = made.length;
            mark[1]--;
            mark[4] = 0;
        }
        Check.due("act " + what, h.act(what, role, place, k, source, to), want);
        Check.due("act " + what + " wrote", Check.text(h, to), Check.hex(made == null ? before : made));
        write(what, role, place, want);
    }

    private static void looks() {
        int full = 0;
        for (int place = 0; place < 16; place++) {
            boolean empty = KEYS[place] == null;
            full += empty ? 0 : 1;
            Check.due("look", h.look(place, 0), empty ? -4 : KEYS[place].length);
            for (int what = 1; what < 6; what++) {
                Check.due("look " + what, h.look(place, what), empty ? -4 : MARKS[place][what - 1]);
            }
        }
        Check.due("count", h.count(3), full);
    }

    private static void puts() {
        h = new CryptHouse();
        Check.row(h, 0, some(64));
        Check.row(h, 1, some(65));
        Check.due("too long", h.put(0, 1, 1, 1, 0, 0), -1);
        Check.due("no key", h.put(0, 2, 1, 1, 0, 0), -1);
        int[][] bad = {{-1, 1, 0}, {64, 1, 0}, {1, 0, 0}, {1, -1, 0}, {1, 1000001, 0}, {1, 1, -1}, {1, 1, 4}};
        for (int[] b : bad) {
            Check.due("put", h.put(0, 0, b[0], b[1], 0, b[2]), -1);
        }
        Check.due("put", h.put(15, 0, 0, 1000000, 7, 3), 64);
        for (int[] b : bad) {
            Check.due("-1 ahead of -4", h.put(15, 0, b[0], b[1], 0, b[2]), -1);
        }
        Check.due("put", h.put(15, 0, 63, 1, 0, 0), -4);
        Check.due("look", h.look(15, 2), 1000000);
        Check.due("look", h.look(15, 3), 7);
        Check.due("look", h.look(15, 4), 3);
        Check.due("approve", h.approve(15, 7), -5);
        Check.due("approve", h.approve(15, 2), 1);
        Check.due("approve", h.approve(15, 2), 1);
        Check.due("approve", h.approve(15, 0), 2);
        Check.due("look", h.look(15, 5), 5);
        Check.due("drop", h.drop(15, 0), -5);
        Check.due("drop", h.drop(15, 7), 0);
        Check.due("drop", h.drop(15, 7), -4);
        Check.due("approve", h.approve(15, 0), -4);
        h.fill(1, 1, 0);
        Check.due("a new key", h.put(15, 0, 63, 1, 0, 0), 1);
        Check.due("nobody approved", h.look(15, 5), 0);
    }

    /** -4 to -8, each ahead of the next. */
    private static void order() {
        h = new CryptHouse();
        h.fill(20, 1, 0);
        Check.due("empty", h.act(0, 3, 0, 0, 0, 1), -4);
        h.put(0, 0, 4, 1, 3, 0);
        Check.due("not the owner", h.act(0, 2, 0, 0, 0, 1), -5);
        Check.due("no right", h.act(0, 3, 0, 0, 0, 1), -6);
        Check.due("done", h.act(2, 3, 0, 0, 0, 1), 32);
        Check.due("no right", h.act(0, 3, 0, 0, 0, 1), -6);
        Check.due("no uses", h.act(2, 3, 0, 0, 0, 1), -7);
        h.put(1, 0, 63, 1, 3, 2);
        h.approve(1, 2);
        Check.due("one is too few", h.act(0, 3, 1, 0, 0, 1), -8);
        h.approve(1, 7);
        Check.due("the key's size", h.act(0, 3, 1, 0, 0, 1), -1);
        Check.due("approvals stay", h.look(1, 5), 132);
        Check.due("the wrapped one may not be", h.act(3, 3, 1, 0, 0, 1), -6);
        Check.due("nothing to be wrapped", h.act(3, 3, 1, 5, 0, 1), -4);
        Check.due("the size", h.act(3, 3, 1, 1, 0, 1), -1);
        Check.due("done", h.act(4, 3, 1, 15, 0, 1), 32);
        Check.due("approvals are none", h.look(1, 5), 0);
        Check.due("no uses ahead of the quorum", h.act(4, 3, 1, 15, 0, 1), -7);
    }

    private static void sizes() {
        h = new CryptHouse();
        h.fill(16, 1, 0);
        h.put(0, 0, 63, 100, 0, 0);
        h.fill(8165, 2, 1);
        Check.due("beyond", h.act(0, 0, 0, 0, 1, 2), -2);
        h.fill(8164, 2, 1);
        Check.due("most", h.act(0, 0, 0, 0, 1, 2), 8192);
        Check.due("back", h.act(1, 0, 0, 0, 2, 2), 8164);
        Check.due("uses", h.look(0, 2), 98);
        h.fill(27, 2, 1);
        Check.due("too short", h.act(1, 0, 0, 0, 1, 2), -1);
        h.fill(28, 2, 1);
        Check.due("none", h.act(1, 0, 0, 0, 1, 2), -3);
        Check.due("left", h.size(2), 8164);
        Check.due("itself", h.act(3, 0, 0, 0, 23, 2), 24);
        Check.due("uses", h.look(0, 2), 97);
    }
}
