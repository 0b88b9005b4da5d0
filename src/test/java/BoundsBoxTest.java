import java.util.Arrays;
import java.util.Random;
import javax.crypto.Cipher;
import javax.crypto.Mac;
import javax.crypto.spec.GCMParameterSpec;
import javax.crypto.spec.SecretKeySpec;

/** The boundary cases of promises 32 to 35: the box, who may act at a place, what is refused first, and the trail. */
public final class BoundsBoxTest {
    private static final int LEAST = Integer.MIN_VALUE;
    private static final int MOST = Integer.MAX_VALUE;
    private static final int[] RIGHT = {1, 2, 4, 8, 32};
    private static final Random RANDOM = new Random(101);
    private static CryptHouse h;
    private static byte[] trail;

    public static void main(String[] args) throws Exception {
        putLimits();
        putOrder();
        everyPlace();
        approvals();
        drops();
        refusedInOrder();
        rights();
        uses();
        quorums();
        seals();
        opens();
        sums();
        wraps();
        derives();
        otherPlace();
        trails();
        looks();
        Check.end();
    }

    private static void fresh() {
        h = new CryptHouse();
        trail = new byte[32];
        for (int row = 0; row < 24; row++) {
            Check.row(h, row, Examples.some(row, row));
        }
    }

    private static byte[] some(int n) {
        byte[] b = new byte[n];
        RANDOM.nextBytes(b);
        return b;
    }

    /** What can be looked at, but for the trail. */
    private static String state() {
        StringBuilder s = new StringBuilder();
        for (int row = 0; row < 23; row++) {
            s.append(Check.text(h, row)).append(',');
        }
        for (int i = 0; i < 96; i++) {
            s.append(h.look(i / 6, i % 6)).append(',');
        }
        return s.append(h.count(3)).toString();
    }

    private static void write(int act, int role, int place, int answer) {
        byte[] more = {(byte) act, (byte) role, (byte) place, (byte) answer};
        trail = Check.sha256(trail, more);
    }

    private static void trailIs(String what) {
        Check.due(what + ": the trail's size", h.trail(23), 32);
        Check.due(what + ": the trail", Check.text(h, 23), Check.hex(trail));
    }

    /** A call that is refused, or throws: nothing has changed, the trail neither. */
    private static void still(String want, String name, Object... given) {
        String before = state();
        Check.due(name + Arrays.toString(given), Check.call(h, name, given), want);
        Check.due(name + Arrays.toString(given) + " changes nothing", state().equals(before), true);
        trailIs(name);
    }

    private static void put(int place, byte[] key, int rights, int uses, int role, int quorum) {
        Check.row(h, 0, key);
        Check.due("put", h.put(place, 0, rights, uses, role, quorum), key.length);
        write(5, 0, place, key.length);
        trailIs("put");
    }

    /** An act that is refused: nothing changes but the trail. */
    private static void refused(int want, int what, int role, int place, int k, int x) {
        String before = state();
        Check.due("act " + what, h.act(what, role, place, k, x, 22), want);
        Check.due("act " + what + " changes nothing but the trail", state().equals(before), true);
        write(what, role, place, want);
        trailIs("act " + what);
    }

    /** An act that is done: what it writes; uses are one less, the approvals none. */
    private static void done(byte[] want, int what, int role, int place, int k, int x, int to) {
        int uses = h.look(place, 2);
        Check.due("act " + what, h.act(what, role, place, k, x, to), want.length);
        Check.due("act " + what + " wrote", Check.text(h, to), Check.hex(want));
        Check.due("uses", h.look(place, 2), uses - 1);
        Check.due("approvals", h.look(place, 5), 0);
        write(what, role, place, want.length);
        trailIs("act " + what);
    }

    private static byte[] gcm(boolean back, byte[] key, byte[] nonce, byte[] x) throws Exception {
        Cipher c = Cipher.getInstance("AES/GCM/NoPadding");
        c.init(back ? Cipher.DECRYPT_MODE : Cipher.ENCRYPT_MODE, new SecretKeySpec(key, "AES"), new GCMParameterSpec(128, nonce));
        return c.doFinal(x);
    }

    private static byte[] hmac(byte[] key, byte[]... parts) throws Exception {
        Mac m = Mac.getInstance("HmacSHA256");
        m.init(new SecretKeySpec(key, "any"));
        return m.doFinal(Check.join(parts));
    }

    /** "-1: the size, rights not 0 .. 63, uses not 1 .. 1000000, quorum not 0 .. 3"; "bytes (1 .. 64)". */
    private static void putLimits() {
        fresh();
        for (int n : new int[] {0, 65, 66, 128, 8192}) {
            h.fill(n, 1, 0);
            still("-1", "put", 0, 0, 1, 1, 0, 0);
        }
        h.fill(16, 1, 0);
        for (int v : new int[] {-1, 64, 65, 128, LEAST, MOST}) {
            still("-1", "put", 0, 0, v, 1, 0, 0);
        }
        for (int v : new int[] {0, -1, 1000001, LEAST, MOST}) {
            still("-1", "put", 0, 0, 1, v, 0, 0);
        }
        for (int v : new int[] {-1, 4, 5, LEAST, MOST}) {
            still("-1", "put", 0, 0, 1, 1, 0, v);
        }
        for (int n : new int[] {1, 2, 16, 63, 64}) {
            fresh();
            put(0, some(n), 0, 1, 0, 0);
            Check.due("the key's size", h.look(0, 0), n);
        }
        int[][] good = {{0, 1, 0}, {63, 1, 0}, {1, 1, 3}, {1, 1000000, 0}, {1, 999999, 2}};
        for (int[] g : good) {
            fresh();
            put(3, some(16), g[0], g[1], 5, g[2]);
            Check.due("rights", h.look(3, 1), g[0]);
            Check.due("uses", h.look(3, 2), g[1]);
            Check.due("owner", h.look(3, 3), 5);
            Check.due("quorum", h.look(3, 4), g[2]);
            Check.due("nobody approved", h.look(3, 5), 0);
        }
    }

    /** "then -4: the place is not empty"; a place, a role that there is none of throws ahead of all. */
    private static void putOrder() {
        fresh();
        put(7, some(1), 63, 2, 1, 0);
        h.fill(16, 2, 0);
        still("-4", "put", 7, 0, 63, 1, 0, 0);
        still("-1", "put", 7, 0, 64, 1, 0, 0);
        still("-1", "put", 7, 0, 63, 0, 0, 0);
        still("-1", "put", 7, 0, 63, 1000001, 0, 0);
        still("-1", "put", 7, 0, 63, 1, 0, 4);
        h.fill(0, 2, 0);
        still("-1", "put", 7, 0, 63, 1, 0, 0);
        String thrown = "throws.IllegalArgumentException";
        for (int bad : new int[] {-1, LEAST, MOST}) {
            still(thrown, "put", bad, 0, -1, 0, 0, -1);
            still(thrown, "put", 7, bad, -1, 0, 0, -1);
            still(thrown, "put", 7, 0, -1, 0, bad, -1);
        }
        still(thrown, "put", 16, 0, -1, 0, 0, -1);
        still(thrown, "put", 7, 24, -1, 0, 0, -1);
        still(thrown, "put", 7, 0, -1, 0, 8, -1);
        Check.due("what is kept", h.look(7, 0), 1);
        // What the row holds later does not count.
        byte[] key = some(20);
        put(8, key, 4, 5, 0, 0);
        h.fill(20, 0, 0);
        Check.due("act", h.act(2, 0, 8, 0, 5, 9), 32);
        Check.run(h, "sum", 2, 0, key, Check.get(h, 5));
        Check.due("the key that was put", Check.text(h, Check.TO), Check.text(h, 9));
    }

    /** "PLACES 0 .. 15, each empty or with a KEY"; "a ROLE 0 .. 7 that owns it": all sixteen at once, all roles. */
    private static void everyPlace() throws Exception {
        fresh();
        byte[][] keys = new byte[16][];
        for (int place = 15; place >= 0; place--) {
            keys[place] = some(16);
            put(place, keys[place], 63, 9, place % 8, 0);
            Check.due("places with a key", h.count(3), 16 - place);
        }
        byte[] x = Check.get(h, 11);
        for (int place = 0; place < 16; place++) {
            for (int role = 0; role < 8; role++) {
                if (role == place % 8) {
                    done(hmac(keys[place], x), 2, role, place, 15 - place, 11, 12);
                } else {
                    refused(-5, 2, role, place, place, 11);
                }
            }
        }
        String thrown = "throws.IllegalArgumentException";
        for (int bad : new int[] {-1, 16, 17, LEAST, MOST}) {
            still(thrown, "act", 2, 0, bad, 0, 11, 12);
            still(thrown, "act", 2, 0, 0, bad, 11, 12);
            still(thrown, "approve", bad, 0);
            still(thrown, "drop", bad, 0);
            still(thrown, "look", bad, 0);
        }
        for (int bad : new int[] {-1, 8, 9, LEAST, MOST}) {
            still(thrown, "act", 2, bad, 0, 0, 11, 12);
            still(thrown, "approve", 0, bad);
            still(thrown, "drop", 0, bad);
        }
        for (int bad : new int[] {-1, 5, 6, 7, LEAST, MOST}) {
            still(thrown, "act", bad, 0, 0, 0, 11, 12);
        }
        for (int bad : new int[] {-1, 24, LEAST, MOST}) {
            still(thrown, "act", 2, 0, 0, 0, bad, 12);
            still(thrown, "act", 2, 0, 0, 0, 11, bad);
            still(thrown, "act", 3, 0, 0, 0, bad, 12);
        }
    }

    /** "APPROVE: a role other than the owner: how many did; -4 empty, -5 the owner." */
    private static void approvals() {
        fresh();
        still("-4", "approve", 0, 0);
        still("-4", "approve", 15, 7);
        for (int owner : new int[] {0, 3, 7}) {
            put(owner, some(16), 63, 3, owner, 3);
            int mask = 0;
            for (int round = 0; round < 2; round++) {
                for (int role = 7; role >= 0; role--) {
                    if (role == owner) {
                        still("-5", "approve", owner, role);
                        continue;
                    }
                    mask |= 1 << role;
                    Check.due("how many did", h.approve(owner, role), Integer.bitCount(mask));
                    write(6, role, owner, Integer.bitCount(mask));
                    trailIs("approve");
                    Check.due("which roles", h.look(owner, 5), mask);
                }
            }
        }
    }

    /** "DROP by the owner: the place is empty: 0; -4, -5." */
    private static void drops() {
        fresh();
        still("-4", "drop", 0, 0);
        for (int owner : new int[] {0, 7}) {
            put(9, some(64), 63, 3, owner, 3);
            h.approve(9, 4);
            write(6, 4, 9, 1);
            for (int role = 0; role < 8; role++) {
                if (role != owner) {
                    still("-5", "drop", 9, role);
                }
            }
            Check.due("drop", h.drop(9, owner), 0);
            write(7, owner, 9, 0);
            trailIs("drop");
            Check.due("no key", h.count(3), 0);
            for (int what = 0; what < 6; what++) {
                Check.due("empty", h.look(9, what), -4);
            }
            still("-4", "drop", 9, owner);
            still("-4", "approve", 9, 5);
            refused(-4, 2, owner, 9, 9, 5);
        }
        put(9, some(1), 1, 1, 2, 1);
        Check.due("nobody approved the new key", h.look(9, 5), 0);
        Check.due("its size", h.look(9, 0), 1);
        Check.due("a key of one byte is one", h.count(3), 1);
    }

    /** "refused by the first of (of the place, not of k): -4 .. -5 .. -6 .. -7 .. -8 .. ; then as told, with its own refusals". */
    private static void refusedInOrder() {
        for (int what = 0; what < 5; what++) {
            for (int lacks = 0; lacks < 32; lacks++) {
                boolean empty = (lacks & 1) != 0;
                boolean other = (lacks & 2) != 0;
                boolean noRight = (lacks & 4) != 0;
                boolean noUses = (lacks & 8) != 0;
                boolean noQuorum = (lacks & 16) != 0;
                fresh();
                // The key is of a size that act 0, 1 and 3 refuse, the row too short for act 1.
                int rights = noRight ? 63 & ~RIGHT[what] : 63;
                if (noUses) {
                    rights |= what == 2 ? 32 : 4;
                }
                byte[] key = some(17);
                put(6, key, rights, noUses ? 1 : 2, 4, noQuorum && !noUses ? 1 : 0);
                if (noUses) {
                    // The last use; with a quorum 1 another role approves first.
                    h.drop(6, 4);
                    write(7, 4, 6, 0);
                    put(6, key, rights, 1, 4, noQuorum ? 1 : 0);
                    if (noQuorum) {
                        h.approve(6, 1);
                        write(6, 1, 6, 1);
                    }
                    int use = what == 2 ? 4 : 2;
                    Check.due("the last use", h.act(use, 4, 6, 6, 5, 22), 32);
                    write(use, 4, 6, 32);
                }
                if (empty) {
                    h.drop(6, 4);
                    write(7, 4, 6, 0);
                }
                int want = empty ? -4 : other ? -5 : noRight ? -6 : noUses ? -7 : noQuorum ? -8 : what == 2 || what == 4 ? 32 : -1;
                if (want == 32) {
                    Check.due("done", h.act(what, 4, 6, 6, 5, 22), 32);
                } else {
                    refused(want, what, other ? 5 : 4, 6, 6, 5);
                }
            }
        }
    }

    /** "RIGHTS (bits: 1 seal, 2 open, 4 sum, 8 wrap others, 16 be wrapped, 32 derive)": each alone, all but one. */
    private static void rights() throws Exception {
        for (int rights = 0; rights < 64; rights++) {
            fresh();
            byte[] key = some(16);
            put(2, key, rights, 100, 1, 0);
            byte[] nonce = Arrays.copyOf(trail, 12);
            byte[] x = Check.get(h, 13);
            for (int what = 0; what < 5; what++) {
                boolean may = (rights & RIGHT[what]) != 0;
                if (!may) {
                    refused(-6, what, 1, 2, 2, 13);
                } else if (what == 0) {
                    nonce = Arrays.copyOf(trail, 12);
                    done(Check.join(nonce, gcm(false, key, nonce, x)), 0, 1, 2, 2, 13, 22);
                } else if (what == 1) {
                    refused(-1, 1, 1, 2, 2, 13);
                } else if (what == 2) {
                    done(hmac(key, x), 2, 1, 2, 2, 13, 22);
                } else if (what == 3) {
                    if ((rights & 16) == 0) {
                        refused(-6, 3, 1, 2, 2, 13);
                    } else {
                        done(wrapped(key, key), 3, 1, 2, 2, 13, 22);
                    }
                } else {
                    done(hmac(hmac(new byte[32], key), x, new byte[] {1}), 4, 1, 2, 2, 13, 22);
                }
            }
        }
    }

    private static byte[] wrapped(byte[] key, byte[] other) throws Exception {
        Cipher c = Cipher.getInstance("AESWrap");
        c.init(Cipher.WRAP_MODE, new SecretKeySpec(key, "AES"));
        return c.wrap(new SecretKeySpec(other, "any"));
    }

    /** "USES that are left"; "When it is done USES is 1 less": the last one, and none. */
    private static void uses() throws Exception {
        for (int uses : new int[] {1, 2, 5}) {
            fresh();
            byte[] key = some(16);
            put(0, key, 63, uses, 0, 0);
            for (int i = 0; i < uses; i++) {
                // What is refused takes no use.
                refused(-1, 1, 0, 0, 0, 5);
                refused(-4, 3, 0, 0, 1, 5);
                done(hmac(key, Check.get(h, 5)), 2, 0, 0, 0, 5, 22);
            }
            for (int what = 0; what < 5; what++) {
                refused(-7, what, 0, 0, 0, 5);
                refused(-7, what, 0, 0, 9, 5);
            }
            Check.due("none is left", h.look(0, 2), 0);
            Check.due("the key stays", h.count(3), 1);
        }
    }

    /** "-8 fewer other roles approved than the quorum"; "the approvals are none". */
    private static void quorums() throws Exception {
        for (int quorum = 0; quorum < 4; quorum++) {
            fresh();
            byte[] key = some(16);
            put(15, key, 63, 1000000, 7, quorum);
            for (int round = 0; round < 2; round++) {
                for (int n = 0; n < quorum; n++) {
                    for (int what = 0; what < 5; what++) {
                        refused(-8, what, 7, 15, 3, 5);
                    }
                    // The same role twice is one.
                    for (int twice = 0; twice < 2; twice++) {
                        Check.due("approve", h.approve(15, 2 * n + round), n + 1);
                        write(6, 2 * n + round, 15, n + 1);
                    }
                }
                // An act's own refusal leaves the approvals.
                refused(-4, 3, 7, 15, 3, 5);
                Check.due("approvals stay", Integer.bitCount(h.look(15, 5)), quorum);
                done(hmac(key, Check.get(h, 5)), 2, 7, 15, 3, 5, 22);
            }
            // More than the quorum is enough, too.
            for (int role = 0; role < 7; role++) {
                Check.due("approve", h.approve(15, role), role + 1);
                write(6, role, 15, role + 1);
            }
            done(hmac(key, Check.get(h, 5)), 2, 7, 15, 3, 5, 22);
        }
    }

    /** "0 seal: SEALED form 0 (a key of another size than 16, 24, 32: -1; -2 beyond), the nonce the first 12 bytes of the trail as it was ahead of the act". */
    private static void seals() throws Exception {
        for (int n = 1; n <= 64; n++) {
            fresh();
            byte[] key = some(n);
            put(1, key, 63, 9, 1, 0);
            h.fill(8165, 1, 20);
            if (n != 16 && n != 24 && n != 32) {
                refused(-1, 0, 1, 1, 0, 5);
                refused(-1, 0, 1, 1, 0, 20);
                continue;
            }
            refused(-2, 0, 1, 1, 0, 20);
            h.fill(8192, 1, 20);
            refused(-2, 0, 1, 1, 0, 20);
            for (int size : new int[] {0, 1, 15, 16, 17, 8163, 8164}) {
                h.fill(size, size, 20);
                byte[] nonce = Arrays.copyOf(trail, 12);
                done(Check.join(nonce, gcm(false, key, nonce, Check.get(h, 20))), 0, 1, 1, 0, 20, size % 2 == 0 ? 20 : 22);
            }
        }
    }

    /** "1 open: that back (-1 below 28 bytes)"; what opens to nothing is done all the same. */
    private static void opens() throws Exception {
        for (int n = 1; n <= 64; n++) {
            fresh();
            byte[] key = some(n);
            put(1, key, 63, 30, 1, 1);
            h.approve(1, 0);
            write(6, 0, 1, 1);
            if (n != 16 && n != 24 && n != 32) {
                h.fill(28, 1, 20);
                refused(-1, 1, 1, 1, 0, 20);
                h.fill(0, 1, 20);
                refused(-1, 1, 1, 1, 0, 20);
                continue;
            }
            for (int size = 0; size < 28; size++) {
                h.fill(size, 1, 20);
                refused(-1, 1, 1, 1, 0, 20);
            }
            for (int size : new int[] {28, 29, 8192}) {
                h.fill(size, 1, 20);
                refused(-3, 1, 1, 1, 0, 20);
            }
            Check.due("the approval stays", h.look(1, 5), 1);
            for (int size : new int[] {0, 1, 16, 8164}) {
                byte[] x = some(size);
                byte[] nonce = some(12);
                byte[] y = Check.join(nonce, gcm(false, key, nonce, x));
                byte[] other = y.clone();
                other[y.length - 1] ^= 1;
                Check.row(h, 20, other);
                refused(-3, 1, 1, 1, 0, 20);
                other = y.clone();
                other[0] ^= 1;
                Check.row(h, 20, other);
                refused(-3, 1, 1, 1, 0, 20);
                Check.row(h, 20, y);
                done(x, 1, 1, 1, 0, 20, size == 1 ? 20 : 22);
                h.approve(1, 0);
                write(6, 0, 1, 1);
            }
        }
    }

    /** "2 sum: HMAC with SHA": keys and rows of all sizes. */
    private static void sums() throws Exception {
        for (int n : new int[] {1, 15, 16, 63, 64}) {
            fresh();
            byte[] key = some(n);
            put(1, key, 4, 9, 1, 0);
            for (int size : new int[] {0, 1, 64, 8192}) {
                h.fill(size, size, 20);
                done(hmac(key, Check.get(h, 20)), 2, 1, 1, 0, 20, size == 1 ? 20 : 22);
            }
        }
    }

    /** "3 wrap: the key of place k (there, else -4; right 16, else -6; the wrapping key's size 16, 24, 32 and its size a multiple of 8, at least 16, else -1)". */
    private static void wraps() throws Exception {
        for (int n : new int[] {8, 15, 16, 17, 23, 24, 25, 31, 32, 33, 40, 48, 64}) {
            for (int size = 1; size <= 64; size++) {
                fresh();
                byte[] key = some(n);
                byte[] other = some(size);
                put(1, key, 8, 9, 1, 0);
                // Of the other place its rights count alone: not its owner, its uses, its quorum.
                put(15, other, 16, 1, 6, 3);
                boolean fits = (n == 16 || n == 24 || n == 32) && size >= 16 && size % 8 == 0;
                if (fits) {
                    done(wrapped(key, other), 3, 1, 1, 15, 5, size % 16 == 0 ? 5 : 22);
                } else {
                    refused(-1, 3, 1, 1, 15, 5);
                }
                Check.due("the other's uses", h.look(15, 2), 1);
                refused(-4, 3, 1, 1, 14, 5);
                h.drop(15, 6);
                write(7, 6, 15, 0);
                put(15, other, 63 - 16, 1, 6, 3);
                refused(-6, 3, 1, 1, 15, 5);
            }
        }
        fresh();
        byte[] key = some(32);
        put(0, key, 24, 9, 1, 0);
        done(wrapped(key, key), 3, 1, 0, 0, 5, 22);
    }

    /** "4 derive: HKDF with SHA, no salt, x as info, 32 bytes". */
    private static void derives() throws Exception {
        for (int n : new int[] {1, 16, 33, 64}) {
            fresh();
            byte[] key = some(n);
            put(1, key, 32, 9, 1, 0);
            for (int size : new int[] {0, 1, 64, 8192}) {
                h.fill(size, size, 20);
                done(hmac(hmac(new byte[32], key), Check.get(h, 20), new byte[] {1}), 4, 1, 1, 0, 20, size == 1 ? 20 : 22);
            }
        }
    }

    /** "k is the other place (looked at by 3 alone; it may be the same; -4 when it is empty), x the row (not looked at by 3)". */
    private static void otherPlace() throws Exception {
        fresh();
        byte[] key = some(16);
        put(4, key, 63, 1000, 0, 0);
        byte[] x = Check.get(h, 9);
        for (int k = 0; k < 16; k++) {
            done(hmac(key, x), 2, 0, 4, k, 9, 22);
            done(hmac(hmac(new byte[32], key), x, new byte[] {1}), 4, 0, 4, k, 9, 22);
            byte[] nonce = Arrays.copyOf(trail, 12);
            done(Check.join(nonce, gcm(false, key, nonce, x)), 0, 0, 4, k, 9, 21);
            done(x, 1, 0, 4, k, 21, 22);
            if (k == 4) {
                done(wrapped(key, key), 3, 0, 4, k, 9, 22);
            } else {
                refused(-4, 3, 0, 4, k, 9);
            }
        }
        for (int row = 0; row < 23; row++) {
            done(wrapped(key, key), 3, 0, 4, 4, row, 22);
        }
    }

    /** "TRAIL: 32 bytes, 0s at first; .. what it answered modulo 256: one byte each". */
    private static void trails() throws Exception {
        fresh();
        trailIs("at first");
        // Refusals of what is no act leave it.
        still("-4", "approve", 3, 3);
        still("-4", "drop", 3, 3);
        still("-1", "put", 3, 3, 64, 1, 1, 1);
        byte[] key = some(16);
        put(3, key, 63, 1000, 3, 0);
        for (int size : new int[] {200, 227, 228, 229, 484, 8163, 8164}) {
            // Answers 228, 255, 256, 257, 512, 8191, 8192.
            h.fill(size, 1, 20);
            byte[] nonce = Arrays.copyOf(trail, 12);
            done(Check.join(nonce, gcm(false, key, nonce, Check.get(h, 20))), 0, 3, 3, 0, 20, 22);
        }
        // A trail that is read into the row that an act reads, and the row that it writes.
        for (int i = 0; i < 3; i++) {
            Check.due("trail", h.trail(20), 32);
            done(hmac(key, trail), 2, 3, 3, 0, 20, 20);
        }
        Check.due("the trail is read only", h.trail(0), 32);
        trailIs("again");
    }

    /** "Throws IllegalArgumentException for another what, too." */
    private static void looks() {
        fresh();
        put(1, some(16), 5, 6, 7, 0);
        String thrown = "throws.IllegalArgumentException";
        for (int place : new int[] {0, 1, 15}) {
            for (int what : new int[] {-1, 6, 7, LEAST, MOST}) {
                still(thrown, "look", place, what);
            }
        }
        int[] due = {16, 5, 6, 7, 0, 0};
        for (int what = 0; what < 6; what++) {
            still(String.valueOf(due[what]), "look", 1, what);
            still("-4", "look", 0, what);
        }
    }
}
