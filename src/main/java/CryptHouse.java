import java.util.Arrays;
import java.util.NoSuchElementException;

/**
 * A house of published cryptology, worked out on rows of bytes. The house holds the rows, the tape, the log and the
 * box; the classes inside it hold nothing between two calls, but for the hash that is under way.
 */
public final class CryptHouse {
    private static final int ROWS = 24;
    private static final int MOST = 8192;
    private static final int LEAVES = 1024;
    private static final int PLACES = 16;
    private static final int ROLES = 8;
    private static final long LOW = 0xffffffffL;

    private static final int BAD = -1;
    private static final int LONG = -2;
    private static final int WRONG = -3;
    private static final int EMPTY = -4;
    private static final int NOT_OWNER = -5;
    private static final int NO_RIGHT = -6;
    private static final int NO_USES = -7;
    private static final int NO_QUORUM = -8;

    private static final int RIGHTS = 0;
    private static final int USES = 1;
    private static final int OWNER = 2;
    private static final int QUORUM = 3;
    private static final int APPROVED = 4;
    private static final int BE_WRAPPED = 16;

    private final Row[] rows = new Row[ROWS];
    private final Row tape = new Row(MOST);
    private final Row out = new Row(MOST);
    private final Row extra = new Row(MOST);
    private final Row leaves = new Row(32 * LEAVES);
    private final Row nodes = new Row(32 * LEAVES);
    private final Row[] keys = new Row[PLACES];
    private final int[][] marks = new int[PLACES][5];
    private final Row trailRow = new Row(32);
    private final Row none = new Row(0);
    private final Digest under = new Digest();
    private boolean isUnder;
    private final Digest digest = new Digest();
    private final Mac mac = new Mac();
    private final Sealed sealed = new Sealed();
    private final Numbers numbers = new Numbers(digest);
    private final Curve[] curves = new Curve[3];
    private final Proofs proofs;
    private final Edwards edwards = new Edwards(digest);
    private final Lattice lattice = new Lattice(digest);

    public CryptHouse() {
        for (int i = 0; i < ROWS; i++) {
            rows[i] = new Row(MOST);
        }
        for (int i = 0; i < PLACES; i++) {
            keys[i] = new Row(64);
        }
        for (int i = 0; i < 3; i++) {
            curves[i] = new Curve(i, digest, mac);
        }
        proofs = new Proofs(curves[0], digest);
        trailRow.zeros(32);
    }

    private static void need(boolean good) {
        if (!good) {
            throw new IllegalArgumentException();
        }
    }

    private static boolean isRow(int x) {
        return x >= 0 && x < ROWS;
    }

    private static boolean in(int x, int first, int last) {
        return x >= first && x <= last;
    }

    private static void needRows(int a, int b) {
        need(isRow(a) && isRow(b));
    }

    private static void needRows(int a, int b, int c) {
        need(isRow(a) && isRow(b) && isRow(c));
    }

    private static void needRows(int a, int b, int c, int d) {
        need(isRow(a) && isRow(b) && isRow(c) && isRow(d));
    }

    /** What has come about in out goes to its row, unless it was refused. */
    private int give(int answer, int to) {
        if (answer >= 0) {
            rows[to].take(out);
        }
        return answer;
    }

    /** As give, of two rows: the second is written last. */
    private int giveBoth(int answer, int first, int second) {
        if (answer >= 0) {
            rows[first].take(out);
            rows[second].take(extra);
        }
        return answer;
    }

    public int feed(int n, long a, long b, long c) throws IllegalArgumentException, IllegalStateException {
        need(in(n, 1, 24));
        if (tape.n + n > MOST) {
            throw new IllegalStateException();
        }
        for (int i = 0; i < n; i++) {
            long from = i < 8 ? a : i < 16 ? b : c;
            tape.push((int) (from >>> (8 * (i & 7))) & 255);
        }
        return tape.n;
    }

    public int keep(int to) throws IllegalArgumentException {
        need(isRow(to));
        rows[to].take(tape);
        tape.clear();
        return rows[to].n;
    }

    public int fill(int n, int v, int to) throws IllegalArgumentException {
        need(isRow(to));
        if (n < 0 || n > MOST) {
            return BAD;
        }
        rows[to].zeros(n);
        Arrays.fill(rows[to].b, 0, n, v & 255);
        return n;
    }

    public int join(int x, int y, int to) throws IllegalArgumentException {
        needRows(x, y, to);
        if (rows[x].n + rows[y].n > MOST) {
            return LONG;
        }
        out.take(rows[x]);
        out.add(rows[y].b, 0, rows[y].n);
        return give(out.n, to);
    }

    public int cut(int x, int from, int n, int to) throws IllegalArgumentException {
        needRows(x, to);
        int size = rows[x].n;
        if (from < 0 || from > size || n < 0 || n > size - from) {
            return BAD;
        }
        out.clear();
        out.add(rows[x].b, from, n);
        return give(n, to);
    }

    public int xor(int x, int y, int to) throws IllegalArgumentException {
        needRows(x, y, to);
        int size = rows[x].n;
        if (rows[y].n != size) {
            return BAD;
        }
        out.zeros(size);
        for (int i = 0; i < size; i++) {
            out.b[i] = rows[x].b[i] ^ rows[y].b[i];
        }
        return give(size, to);
    }

    public int size(int x) throws IllegalArgumentException {
        need(isRow(x));
        return rows[x].n;
    }

    public long octets(int x, int k) throws IllegalArgumentException, NoSuchElementException {
        need(isRow(x));
        Row r = rows[x];
        if (k < 0 || k >= r.n) {
            throw new NoSuchElementException();
        }
        long v = 0;
        for (int i = 0; i < 8 && k + i < r.n; i++) {
            v |= (long) r.b[k + i] << 8 * i;
        }
        return v;
    }

    public int compare(int x, int y) throws IllegalArgumentException {
        needRows(x, y);
        Row a = rows[x];
        Row b = rows[y];
        int width = a.width();
        int other = b.width();
        if (width != other) {
            return width < other ? -1 : 1;
        }
        for (int i = 0; i < width; i++) {
            int v = a.b[a.n - width + i];
            int w = b.b[b.n - width + i];
            if (v != w) {
                return v < w ? -1 : 1;
            }
        }
        return 0;
    }

    public int hash(int h, int n, int x, int to) throws IllegalArgumentException {
        need(in(h, 0, 13));
        needRows(x, to);
        if (!Digest.allows(h, n)) {
            return BAD;
        }
        digest.start(h, n);
        digest.eat(rows[x].b, 0, rows[x].n);
        out.n = digest.finish(out.b, 0);
        return give(out.n, to);
    }

    public int begin(int h, int n) throws IllegalArgumentException {
        need(in(h, 0, 13));
        if (!Digest.allows(h, n)) {
            return BAD;
        }
        under.start(h, n);
        isUnder = true;
        return 0;
    }

    public int more(int x) throws IllegalArgumentException {
        need(isRow(x));
        if (!isUnder) {
            return WRONG;
        }
        under.eat(rows[x].b, 0, rows[x].n);
        return 0;
    }

    public int done(int to) throws IllegalArgumentException {
        need(isRow(to));
        if (!isUnder) {
            return WRONG;
        }
        out.n = under.finish(out.b, 0);
        isUnder = false;
        return give(out.n, to);
    }

    public int sum(int kind, int n, int key, int x, int to) throws IllegalArgumentException {
        need(in(kind, 0, 15));
        needRows(key, x, to);
        Row k = rows[key];
        Row text = rows[x];
        if (kind <= 9) {
            return give(mac.hmac(kind, k, text, out), to);
        }
        if (kind <= 11) {
            return give(mac.kmac(kind, n, k, text, out), to);
        }
        if (kind <= 13) {
            return give(mac.blake(kind, n, k, text, out), to);
        }
        return give(kind == 14 ? sealed.cmac(k, text, out) : sealed.poly1305(k, text, out), to);
    }

    public int derive(int h, int secret, int salt, int info, int n, int to) throws IllegalArgumentException {
        need(in(h, 0, 9));
        needRows(secret, salt, info, to);
        return give(mac.hkdf(h, rows[secret], rows[salt], rows[info], n, out), to);
    }

    public int stretch(int h, int password, int salt, int rounds, int n, int to) throws IllegalArgumentException {
        need(in(h, 0, 9));
        needRows(password, salt, to);
        return give(mac.stretched(h, rows[password], rows[salt], rounds, n, out), to);
    }

    public int scrypt(int password, int salt, int cost, int r, int p, int n, int to) throws IllegalArgumentException {
        needRows(password, salt, to);
        return give(mac.scrypted(rows[password], rows[salt], cost, r, p, n, out), to);
    }

    public int crypt(int b, int mode, boolean back, int key, int iv, int x, int to) throws IllegalArgumentException {
        need(in(b, 0, 2) && in(mode, 0, 6));
        needRows(key, iv, x, to);
        return give(sealed.inMode(b, mode, back, rows[key], rows[iv], rows[x], out), to);
    }

    public int stream(int key, int nonce, int counter, int x, int to) throws IllegalArgumentException {
        needRows(key, nonce, x, to);
        return give(sealed.streamed(rows[key], rows[nonce], counter, rows[x], out), to);
    }

    public int seal(int kind, int key, int nonce, int ad, int x, int to) throws IllegalArgumentException {
        need(in(kind, 0, 4) && isRow(to));
        needRows(key, nonce, ad, x);
        return give(sealed.inForm(kind, false, rows[key], rows[nonce], rows[ad], rows[x], out), to);
    }

    public int open(int kind, int key, int nonce, int ad, int x, int to) throws IllegalArgumentException {
        need(in(kind, 0, 4) && isRow(to));
        needRows(key, nonce, ad, x);
        return give(sealed.inForm(kind, true, rows[key], rows[nonce], rows[ad], rows[x], out), to);
    }

    public int wrap(boolean padded, boolean back, int key, int x, int to) throws IllegalArgumentException {
        needRows(key, x, to);
        return give(sealed.wrapped(padded, back, rows[key], rows[x], out), to);
    }

    public int format(int radix, boolean back, int key, int tweak, int x, int to) throws IllegalArgumentException {
        needRows(key, tweak, x, to);
        return give(sealed.digits(radix, back, rows[key], rows[tweak], rows[x], out), to);
    }

    public int work(int op, int a, int b, int m, int to) throws IllegalArgumentException {
        need(in(op, 0, 11));
        needRows(a, b, m, to);
        return give(numbers.worked(op, rows[a], rows[b], rows[m], out), to);
    }

    public int prime(int x, int k) throws IllegalArgumentException {
        need(isRow(x));
        return numbers.primeBy(rows[x], k);
    }

    public int witness(int x, int q, int a) throws IllegalArgumentException {
        needRows(x, q, a);
        return numbers.witnessed(rows[x], rows[q], rows[a]);
    }

    public int rsa(int kind, int h, int n, int e, int x, int more, int to) throws IllegalArgumentException {
        need(in(kind, 0, 7) && in(h, 0, 9) && isRow(to));
        needRows(n, e, x, more);
        return give(numbers.rsaOf(kind, h, rows[n], rows[e], rows[x], rows[more], out), to);
    }

    public int point(int curve, int op, int a, int b, int to) throws IllegalArgumentException {
        need(in(curve, 0, 3) && in(op, 0, 4));
        needRows(a, b, to);
        if (curve == 3) {
            return give(edwards.pointed(op, rows[a], rows[b], out), to);
        }
        return give(curves[curve].pointed(op, rows[a], rows[b], out), to);
    }

    public int agree(int curve, int secret, int other, int to) throws IllegalArgumentException {
        need(in(curve, 0, 3));
        needRows(secret, other, to);
        if (curve == 3) {
            return give(edwards.exchanged(rows[secret], rows[other], out), to);
        }
        return give(curves[curve].agreed(rows[secret], rows[other], out), to);
    }

    public int key(int kind, int secret, int to) throws IllegalArgumentException {
        need(in(kind, 0, 5));
        needRows(secret, to);
        if (kind == 3) {
            return give(edwards.keyOf(rows[secret], out), to);
        }
        if (kind == 5) {
            return give(edwards.exchanged(rows[secret], null, out), to);
        }
        return give(curves[kind == 4 ? 2 : kind].keyOf(rows[secret], kind == 4, out), to);
    }

    public int sign(int kind, int h, int secret, int x, int more, int to) throws IllegalArgumentException {
        need(in(kind, 0, 4) && (kind > 2 || in(h, 0, 9)));
        needRows(secret, x, more, to);
        if (kind == 3) {
            return give(edwards.signed(rows[secret], rows[x], out), to);
        }
        if (kind == 4) {
            return give(curves[2].schnorrSigned(rows[secret], rows[x], rows[more], out), to);
        }
        return give(curves[kind].ecdsaSigned(h, rows[secret], rows[x], rows[more], out), to);
    }

    public int verify(int kind, int h, int key, int x, int signature) throws IllegalArgumentException {
        need(in(kind, 0, 4) && (kind > 2 || in(h, 0, 9)));
        needRows(key, x, signature);
        if (kind == 3) {
            return edwards.verified(rows[key], rows[x], rows[signature]);
        }
        if (kind == 4) {
            return curves[2].schnorrVerified(rows[key], rows[x], rows[signature]);
        }
        return curves[kind].ecdsaVerified(h, rows[key], rows[x], rows[signature]);
    }

    public int reused(int curve, int h, int s, int x, int t, int y, int to) throws IllegalArgumentException {
        need(in(curve, 0, 2) && in(h, 0, 9) && isRow(to));
        needRows(s, x, t, y);
        return give(curves[curve].reusedSecret(h, rows[s], rows[x], rows[t], rows[y], out), to);
    }

    public int hybridSeal(int aead, int key, int secret, int info, int ad, int x, int to)
            throws IllegalArgumentException {
        need(in(aead, 0, 2) && isRow(secret) && isRow(info));
        needRows(key, ad, x, to);
        Row point = rows[key];
        Row text = rows[x];
        if (point.n != 32 || rows[secret].n != 32) {
            return BAD;
        }
        if (text.n + 48 > MOST) {
            return LONG;
        }
        if (edwards.exchanged(rows[secret], point, mac.shared) < 0) {
            return WRONG;
        }
        edwards.exchanged(rows[secret], null, mac.context);
        extra.take(mac.context);
        mac.context.add(point.b, 0, 32);
        mac.hybrid(aead, rows[info]);
        sealed.inForm(aead == 2 ? 4 : 0, false, mac.hybridKey, mac.hybridNonce, rows[ad], text, out);
        extra.add(out.b, 0, out.n);
        out.take(extra);
        return give(out.n, to);
    }

    public int hybridOpen(int aead, int secret, int info, int ad, int x, int to) throws IllegalArgumentException {
        need(in(aead, 0, 2) && isRow(secret) && isRow(info));
        needRows(ad, x, to);
        Row text = rows[x];
        if (rows[secret].n != 32 || text.n < 48) {
            return BAD;
        }
        extra.clear();
        extra.add(text.b, 0, 32);
        if (edwards.exchanged(rows[secret], extra, mac.shared) < 0) {
            return WRONG;
        }
        edwards.exchanged(rows[secret], null, mac.context);
        extra.add(mac.context.b, 0, 32);
        mac.context.clear();
        mac.context.add(extra.b, 0, 64);
        mac.hybrid(aead, rows[info]);
        extra.clear();
        extra.add(text.b, 32, text.n - 32);
        Row key = mac.hybridKey;
        return give(sealed.inForm(aead == 2 ? 4 : 0, true, key, mac.hybridNonce, rows[ad], extra, out), to);
    }

    public int capsuleKeys(int kind, int seeds, int sealing, int opening) throws IllegalArgumentException {
        need(in(kind, 0, 2));
        needRows(seeds, sealing, opening);
        return giveBoth(lattice.kemKeys(kind, rows[seeds], out, extra), sealing, opening);
    }

    public int capsule(int kind, int sealing, int m, int to, int shared) throws IllegalArgumentException {
        need(in(kind, 0, 2));
        needRows(sealing, m, to, shared);
        return giveBoth(lattice.kemSealed(kind, rows[sealing], rows[m], out, extra), to, shared);
    }

    public int uncapsule(int kind, int opening, int capsule, int to) throws IllegalArgumentException {
        need(in(kind, 0, 2));
        needRows(opening, capsule, to);
        return give(lattice.kemOpened(kind, rows[opening], rows[capsule], out), to);
    }

    public int latticeKeys(int kind, int seed, int open, int secret) throws IllegalArgumentException {
        need(in(kind, 0, 2));
        needRows(seed, open, secret);
        return giveBoth(lattice.dsaKeys(kind, rows[seed], out, extra), open, secret);
    }

    public int latticeSign(int kind, int secret, int x, int context, int help, int to) throws IllegalArgumentException {
        need(in(kind, 0, 2) && isRow(to));
        needRows(secret, x, context, help);
        return give(lattice.dsaSigned(kind, rows[secret], rows[x], rows[context], rows[help], out), to);
    }

    public int latticeVerify(int kind, int open, int x, int context, int signature) throws IllegalArgumentException {
        need(in(kind, 0, 2));
        needRows(open, x, context, signature);
        return lattice.dsaVerified(kind, rows[open], rows[x], rows[context], rows[signature]);
    }

    public int share(int t, int i, int x, int coefficients, int to) throws IllegalArgumentException {
        needRows(x, coefficients, to);
        return give(Proofs.shared(t, i, rows[x], rows[coefficients], out), to);
    }

    public int together(int t, int x, int to) throws IllegalArgumentException {
        needRows(x, to);
        return give(Proofs.restored(t, rows[x], out), to);
    }

    public int pledge(int i, int x, int to) throws IllegalArgumentException {
        needRows(x, to);
        return give(proofs.pledged(i, rows[x], out), to);
    }

    public int fits(int i, int share, int pledge) throws IllegalArgumentException {
        needRows(share, pledge);
        return proofs.fitted(i, rows[share], rows[pledge]);
    }

    public int jointNonces(int secret, int random, int to) throws IllegalArgumentException {
        needRows(secret, random, to);
        return give(edwards.nonces(rows[secret], rows[random], out), to);
    }

    public int jointShare(int i, int secret, int nonces, int key, int list, int x, int to)
            throws IllegalArgumentException {
        needRows(secret, nonces, key);
        needRows(list, x, to);
        Row own = rows[secret];
        return give(edwards.jointShared(i, own, rows[nonces], rows[key], rows[list], rows[x], out), to);
    }

    public int jointSign(int list, int shares, int key, int x, int to) throws IllegalArgumentException {
        needRows(list, shares, key);
        needRows(x, to);
        return give(edwards.jointSigned(rows[list], rows[shares], rows[key], rows[x], out), to);
    }

    public int commit(int v, int r, int to) throws IllegalArgumentException {
        needRows(v, r, to);
        return give(proofs.committed(rows[v], rows[r], out), to);
    }

    public int proveSame(int secret, int q, int nonce, int to) throws IllegalArgumentException {
        needRows(secret, q, nonce, to);
        return give(proofs.provenSame(rows[secret], rows[q], rows[nonce], out), to);
    }

    public int checkSame(int x, int q, int y, int proof) throws IllegalArgumentException {
        needRows(x, q, y, proof);
        return proofs.sameChecked(rows[x], rows[q], rows[y], rows[proof]);
    }

    public int proveBit(int v, int x, int to) throws IllegalArgumentException {
        needRows(x, to);
        return give(proofs.provenBit(v, rows[x], out), to);
    }

    public int checkBit(int c, int proof) throws IllegalArgumentException {
        needRows(c, proof);
        return proofs.bitChecked(rows[c], rows[proof]);
    }

    public int delay(int x, int n, int t, int to) throws IllegalArgumentException {
        needRows(x, n, to);
        return give(numbers.delayed(rows[x], rows[n], t, out), to);
    }

    public int checkDelay(int x, int n, int t, int proof) throws IllegalArgumentException {
        needRows(x, n, proof);
        return numbers.delayChecked(rows[x], rows[n], t, rows[proof]);
    }

    private void hashLeaf(Row x, int[] to, int at) {
        digest.start(Digest.SHA256, 0);
        digest.eatByte(0);
        digest.eat(x.b, 0, x.n);
        digest.finish(to, at);
    }

    private void hashPair(int[] a, int at, int[] b, int from, int[] to, int into) {
        digest.start(Digest.SHA256, 0);
        digest.eatByte(1);
        digest.eat(a, at, 32);
        digest.eat(b, from, 32);
        digest.finish(to, into);
    }

    public int leaf(int x) throws IllegalArgumentException {
        need(isRow(x));
        if (leaves.n + 32 > leaves.b.length) {
            return LONG;
        }
        hashLeaf(rows[x], leaves.b, leaves.n);
        leaves.n += 32;
        return leaves.n / 32 - 1;
    }

    /** Joins the nodes of a level in pairs; one without a partner goes up as it is. */
    private int raise(int count) {
        for (int j = 0; 2 * j < count; j++) {
            if (2 * j + 1 < count) {
                hashPair(nodes.b, 64 * j, nodes.b, 64 * j + 32, nodes.b, 32 * j);
            } else {
                System.arraycopy(nodes.b, 64 * j, nodes.b, 32 * j, 32);
            }
        }
        return (count + 1) / 2;
    }

    /** Puts the head of some leaves, one behind the other, behind what out has. */
    private void addTree(int from, int n) {
        nodes.clear();
        nodes.add(leaves.b, 32 * from, 32 * n);
        int count = n;
        for (int level = 0; level < 11 && count > 1; level++) {
            count = raise(count);
        }
        out.add(nodes.b, 0, 32);
    }

    public int head(int n, int to) throws IllegalArgumentException {
        need(isRow(to));
        if (n < 0 || n > leaves.n / 32) {
            return BAD;
        }
        out.clear();
        if (n == 0) {
            digest.start(Digest.SHA256, 0);
            out.n = digest.finish(out.b, 0);
        } else {
            addTree(0, n);
        }
        return give(out.n, to);
    }

    public int path(int i, int n, int to) throws IllegalArgumentException {
        need(isRow(to));
        if (n < 0 || n > leaves.n / 32 || i < 0 || i >= n) {
            return BAD;
        }
        out.clear();
        nodes.clear();
        nodes.add(leaves.b, 0, 32 * n);
        int count = n;
        int at = i;
        for (int level = 0; level < 11 && count > 1; level++) {
            int partner = at ^ 1;
            if (partner < count) {
                out.add(nodes.b, 32 * partner, 32);
            }
            count = raise(count);
            at >>= 1;
        }
        return give(out.n, to);
    }

    /** RFC 6962's subproof; each step halves the tree at least, so that the depth stays small. */
    private void prove(int m, int start, int n, boolean whole, int depth) {
        if (m == n || depth > 12) {
            if (!whole) {
                addTree(start, n);
            }
            return;
        }
        int k = 1;
        for (int i = 0; i < 11 && 2 * k < n; i++) {
            k *= 2;
        }
        if (m <= k) {
            prove(m, start, k, whole, depth + 1);
            addTree(start + k, n - k);
        } else {
            prove(m - k, start + k, n - k, false, depth + 1);
            addTree(start, k);
        }
    }

    public int growth(int m, int n, int to) throws IllegalArgumentException {
        need(isRow(to));
        if (m < 1 || m > n || n > leaves.n / 32) {
            return BAD;
        }
        out.clear();
        prove(m, 0, n, true, 0);
        return give(out.n, to);
    }

    public int checkPath(int i, int n, int x, int path, int head) throws IllegalArgumentException {
        needRows(x, path, head);
        Row proof = rows[path];
        if (i < 0 || i >= n || proof.n % 32 != 0 || rows[head].n != 32) {
            return 0;
        }
        int[] r = out.b;
        hashLeaf(rows[x], r, 0);
        int first = i;
        int last = n - 1;
        for (int at = 0; at < proof.n; at += 32) {
            if (last == 0) {
                return 0;
            }
            if ((first & 1) == 1 || first == last) {
                hashPair(proof.b, at, r, 0, r, 0);
                for (int step = 0; step < 32 && (first & 1) == 0 && first != 0; step++) {
                    first >>= 1;
                    last >>= 1;
                }
            } else {
                hashPair(r, 0, proof.b, at, r, 0);
            }
            first >>= 1;
            last >>= 1;
        }
        return last == 0 && rows[head].same(r, 0, 0, 32) ? 1 : 0;
    }

    public int checkGrowth(int m, int n, int first, int second, int proof) throws IllegalArgumentException {
        needRows(first, second, proof);
        Row p = rows[proof];
        if (m < 1 || m > n || p.n % 32 != 0 || rows[first].n != 32 || rows[second].n != 32) {
            return 0;
        }
        if (m == n) {
            return p.n == 0 && rows[first].same(rows[second].b, 0, 0, 32) ? 1 : 0;
        }
        // A whole tree is its own first node, which the proof leaves out.
        boolean power = (m & m - 1) == 0;
        if (!power && p.n == 0) {
            return 0;
        }
        System.arraycopy(power ? rows[first].b : p.b, 0, out.b, 0, 32);
        System.arraycopy(out.b, 0, extra.b, 0, 32);
        return grows(m, n, p, power ? 0 : 32) && rows[first].same(out.b, 0, 0, 32)
            && rows[second].same(extra.b, 0, 0, 32) ? 1 : 0;
    }

    /** out becomes the first head and extra the second, by a proof from a place on. */
    private boolean grows(int m, int n, Row p, int from) {
        int a = m - 1;
        int b = n - 1;
        for (int step = 0; step < 32 && (a & 1) == 1; step++) {
            a >>= 1;
            b >>= 1;
        }
        for (int at = from; at < p.n; at += 32) {
            if (b == 0) {
                return false;
            }
            if ((a & 1) == 1 || a == b) {
                hashPair(p.b, at, out.b, 0, out.b, 0);
                hashPair(p.b, at, extra.b, 0, extra.b, 0);
                for (int step = 0; step < 32 && (a & 1) == 0 && a != 0; step++) {
                    a >>= 1;
                    b >>= 1;
                }
            } else {
                hashPair(extra.b, 0, p.b, at, extra.b, 0);
            }
            a >>= 1;
            b >>= 1;
        }
        return b == 0;
    }

    public int put(int place, int x, int rights, int uses, int role, int quorum) throws IllegalArgumentException {
        need(in(place, 0, PLACES - 1) && isRow(x) && in(role, 0, ROLES - 1));
        int size = rows[x].n;
        if (!in(size, 1, 64) || !in(rights, 0, 63) || !in(uses, 1, 1000000) || !in(quorum, 0, 3)) {
            return BAD;
        }
        if (keys[place].n > 0) {
            return EMPTY;
        }
        keys[place].take(rows[x]);
        int[] mark = marks[place];
        mark[RIGHTS] = rights;
        mark[USES] = uses;
        mark[OWNER] = role;
        mark[QUORUM] = quorum;
        mark[APPROVED] = 0;
        write(5, 0, place, size);
        return size;
    }

    /** The trail goes on. */
    private void write(int act, int role, int place, int answer) {
        digest.start(Digest.SHA256, 0);
        digest.eat(trailRow.b, 0, trailRow.n);
        digest.eatByte(act);
        digest.eatByte(role);
        digest.eatByte(place);
        digest.eatByte(answer);
        digest.finish(trailRow.b, 0);
    }

    public int approve(int place, int role) throws IllegalArgumentException {
        need(in(place, 0, PLACES - 1) && in(role, 0, ROLES - 1));
        if (keys[place].n == 0) {
            return EMPTY;
        }
        if (marks[place][OWNER] == role) {
            return NOT_OWNER;
        }
        marks[place][APPROVED] |= 1 << role;
        int count = ones(marks[place][APPROVED]);
        write(6, role, place, count);
        return count;
    }

    private static int ones(int bits) {
        int count = 0;
        for (int i = 0; i < ROLES; i++) {
            count += bits >> i & 1;
        }
        return count;
    }

    public int drop(int place, int role) throws IllegalArgumentException {
        need(in(place, 0, PLACES - 1) && in(role, 0, ROLES - 1));
        if (keys[place].n == 0) {
            return EMPTY;
        }
        if (marks[place][OWNER] != role) {
            return NOT_OWNER;
        }
        keys[place].clear();
        write(7, role, place, 0);
        return 0;
    }

    public int act(int what, int role, int place, int k, int x, int to) throws IllegalArgumentException {
        need(in(what, 0, 4) && in(role, 0, ROLES - 1));
        need(in(place, 0, PLACES - 1) && in(k, 0, PLACES - 1));
        needRows(x, to);
        Row key = keys[place];
        int answer = refused(what, role, place);
        if (answer == 0) {
            switch (what) {
                case 0:
                    answer = actSeal(key, rows[x]);
                    break;
                case 1:
                    answer = actOpen(key, rows[x]);
                    break;
                case 2:
                    answer = mac.hmac(Digest.SHA256, key, rows[x], out);
                    break;
                case 3:
                    answer = actWrap(key, k);
                    break;
                default:
                    answer = mac.hkdf(Digest.SHA256, key, none, rows[x], 32, out);
                    break;
            }
        }
        if (answer >= 0) {
            marks[place][USES]--;
            marks[place][APPROVED] = 0;
        }
        write(what, role, place, answer);
        return give(answer, to);
    }

    /** Why a role may not act at a place; 0 when it may. */
    private int refused(int what, int role, int place) {
        int right = what == 4 ? 32 : 1 << what;
        int[] mark = marks[place];
        if (keys[place].n == 0) {
            return EMPTY;
        }
        if (mark[OWNER] != role) {
            return NOT_OWNER;
        }
        if ((mark[RIGHTS] & right) == 0) {
            return NO_RIGHT;
        }
        if (mark[USES] < 1) {
            return NO_USES;
        }
        return ones(mark[APPROVED]) < mark[QUORUM] ? NO_QUORUM : 0;
    }

    private int actSeal(Row key, Row x) {
        if (!Cipher.isAesKey(key.n)) {
            return BAD;
        }
        if (x.n + 28 > MOST) {
            return LONG;
        }
        extra.clear();
        extra.add(trailRow.b, 0, 12);
        sealed.inForm(0, false, key, extra, none, x, out);
        extra.add(out.b, 0, out.n);
        out.take(extra);
        return out.n;
    }

    private int actOpen(Row key, Row x) {
        if (!Cipher.isAesKey(key.n) || x.n < 28) {
            return BAD;
        }
        extra.clear();
        extra.add(x.b, 0, 12);
        nodes.clear();
        nodes.add(x.b, 12, x.n - 12);
        return sealed.inForm(0, true, key, extra, none, nodes, out);
    }

    private int actWrap(Row key, int k) {
        Row other = keys[k];
        if (other.n == 0) {
            return EMPTY;
        }
        if ((marks[k][RIGHTS] & BE_WRAPPED) == 0) {
            return NO_RIGHT;
        }
        return sealed.wrapped(false, false, key, other, out);
    }

    public int trail(int to) throws IllegalArgumentException {
        need(isRow(to));
        rows[to].take(trailRow);
        return trailRow.n;
    }

    public int look(int place, int what) throws IllegalArgumentException {
        need(in(place, 0, PLACES - 1) && in(what, 0, 5));
        if (keys[place].n == 0) {
            return EMPTY;
        }
        return what == 0 ? keys[place].n : marks[place][what - 1];
    }

    public int count(int what) throws IllegalArgumentException {
        need(in(what, 0, 3));
        if (what == 0) {
            return tape.n;
        }
        if (what == 1) {
            return isUnder ? 1 : 0;
        }
        if (what == 2) {
            return leaves.n / 32;
        }
        int full = 0;
        for (int i = 0; i < PLACES; i++) {
            full += keys[i].n > 0 ? 1 : 0;
        }
        return full;
    }

    /** A row of bytes, each held as 0 .. 255, of at most as many as it was made for. */
    private static final class Row {
        final int[] b;
        int n;

        Row(int most) {
            b = new int[most];
        }

        void clear() {
            n = 0;
        }

        void push(int v) {
            if (n < b.length) {
                b[n] = v & 255;
                n++;
            }
        }

        void add(int[] from, int at, int len) {
            int room = Math.min(len, b.length - n);
            if (room > 0 && at >= 0 && at <= from.length - room) {
                System.arraycopy(from, at, b, n, room);
                n += room;
            }
        }

        void text(String s) {
            for (int i = 0; i < s.length(); i++) {
                push(s.charAt(i));
            }
        }

        /** The lowest bytes of a value, the highest of them first. */
        void number(long v, int count) {
            for (int i = count - 1; i >= 0; i--) {
                push(i < 8 ? (int) (v >>> (8 * i)) : 0);
            }
        }

        void take(Row r) {
            n = 0;
            add(r.b, 0, r.n);
        }

        void zeros(int count) {
            n = Math.max(0, Math.min(count, b.length));
            Arrays.fill(b, 0, n, 0);
        }

        /** How many bytes the number has that this row is, without 0s ahead. */
        int width() {
            int zeros = 0;
            for (int i = 0; i < n && b[i] == 0; i++) {
                zeros++;
            }
            return n - zeros;
        }

        boolean same(int[] other, int at, int from, int len) {
            int differs = 0;
            for (int i = 0; i < len; i++) {
                differs |= b[from + i] ^ other[at + i];
            }
            return differs == 0;
        }
    }

    /** The hashes: one of the fourteen kinds, fed in pieces. */
    private static final class Digest {
        static final int SHA256 = 2;
        static final int SHA512 = 4;
        static final int SHA3_256 = 7;
        static final int SHA3_512 = 9;
        static final int SHAKE128 = 10;
        static final int SHAKE256 = 11;
        static final int BLAKE2B = 12;
        static final int BLAKE2S = 13;
        private static final int[] SIZES = {20, 28, 32, 48, 64, 32, 28, 32, 48, 64, 0, 0, 0, 0};
        private static final int[] RATES = {64, 64, 64, 128, 128, 128, 144, 136, 104, 72, 168, 136, 128, 64};
        private static final int[] START_1 = {0x67452301, 0xefcdab89, 0x98badcfe, 0x10325476, 0xc3d2e1f0, 0, 0, 0};
        private static final int[] START_224 = {
            0xc1059ed8, 0x367cd507, 0x3070dd17, 0xf70e5939, 0xffc00b31, 0x68581511, 0x64f98fa7, 0xbefa4fa4
        };
        private static final int[] START_256 = {
            0x6a09e667, 0xbb67ae85, 0x3c6ef372, 0xa54ff53a, 0x510e527f, 0x9b05688c, 0x1f83d9ab, 0x5be0cd19
        };
        private static final long[] START_384 = {
            0xcbbb9d5dc1059ed8L, 0x629a292a367cd507L, 0x9159015a3070dd17L, 0x152fecd8f70e5939L,
            0x67332667ffc00b31L, 0x8eb44a8768581511L, 0xdb0c2e0d64f98fa7L, 0x47b5481dbefa4fa4L
        };
        private static final long[] START_512 = {
            0x6a09e667f3bcc908L, 0xbb67ae8584caa73bL, 0x3c6ef372fe94f82bL, 0xa54ff53a5f1d36f1L,
            0x510e527fade682d1L, 0x9b05688c2b3e6c1fL, 0x1f83d9abfb41bd6bL, 0x5be0cd19137e2179L
        };
        private static final long[] START_512_256 = {
            0x22312194fc2bf72cL, 0x9f555fa3c84c64c2L, 0x2393b86b6f53b151L, 0x963877195940eabdL,
            0x96283ee2a88effe3L, 0xbe5e1e2553863992L, 0x2b0199fc2c85b8aaL, 0x0eb72ddc81c52ca2L
        };
        private static final int[] K32 = {
            0x428a2f98, 0x71374491, 0xb5c0fbcf, 0xe9b5dba5, 0x3956c25b, 0x59f111f1, 0x923f82a4, 0xab1c5ed5,
            0xd807aa98, 0x12835b01, 0x243185be, 0x550c7dc3, 0x72be5d74, 0x80deb1fe, 0x9bdc06a7, 0xc19bf174,
            0xe49b69c1, 0xefbe4786, 0x0fc19dc6, 0x240ca1cc, 0x2de92c6f, 0x4a7484aa, 0x5cb0a9dc, 0x76f988da,
            0x983e5152, 0xa831c66d, 0xb00327c8, 0xbf597fc7, 0xc6e00bf3, 0xd5a79147, 0x06ca6351, 0x14292967,
            0x27b70a85, 0x2e1b2138, 0x4d2c6dfc, 0x53380d13, 0x650a7354, 0x766a0abb, 0x81c2c92e, 0x92722c85,
            0xa2bfe8a1, 0xa81a664b, 0xc24b8b70, 0xc76c51a3, 0xd192e819, 0xd6990624, 0xf40e3585, 0x106aa070,
            0x19a4c116, 0x1e376c08, 0x2748774c, 0x34b0bcb5, 0x391c0cb3, 0x4ed8aa4a, 0x5b9cca4f, 0x682e6ff3,
            0x748f82ee, 0x78a5636f, 0x84c87814, 0x8cc70208, 0x90befffa, 0xa4506ceb, 0xbef9a3f7, 0xc67178f2
        };
        private static final long[] K64 = {
            0x428a2f98d728ae22L, 0x7137449123ef65cdL, 0xb5c0fbcfec4d3b2fL, 0xe9b5dba58189dbbcL,
            0x3956c25bf348b538L, 0x59f111f1b605d019L, 0x923f82a4af194f9bL, 0xab1c5ed5da6d8118L,
            0xd807aa98a3030242L, 0x12835b0145706fbeL, 0x243185be4ee4b28cL, 0x550c7dc3d5ffb4e2L,
            0x72be5d74f27b896fL, 0x80deb1fe3b1696b1L, 0x9bdc06a725c71235L, 0xc19bf174cf692694L,
            0xe49b69c19ef14ad2L, 0xefbe4786384f25e3L, 0x0fc19dc68b8cd5b5L, 0x240ca1cc77ac9c65L,
            0x2de92c6f592b0275L, 0x4a7484aa6ea6e483L, 0x5cb0a9dcbd41fbd4L, 0x76f988da831153b5L,
            0x983e5152ee66dfabL, 0xa831c66d2db43210L, 0xb00327c898fb213fL, 0xbf597fc7beef0ee4L,
            0xc6e00bf33da88fc2L, 0xd5a79147930aa725L, 0x06ca6351e003826fL, 0x142929670a0e6e70L,
            0x27b70a8546d22ffcL, 0x2e1b21385c26c926L, 0x4d2c6dfc5ac42aedL, 0x53380d139d95b3dfL,
            0x650a73548baf63deL, 0x766a0abb3c77b2a8L, 0x81c2c92e47edaee6L, 0x92722c851482353bL,
            0xa2bfe8a14cf10364L, 0xa81a664bbc423001L, 0xc24b8b70d0f89791L, 0xc76c51a30654be30L,
            0xd192e819d6ef5218L, 0xd69906245565a910L, 0xf40e35855771202aL, 0x106aa07032bbd1b8L,
            0x19a4c116b8d2d0c8L, 0x1e376c085141ab53L, 0x2748774cdf8eeb99L, 0x34b0bcb5e19b48a8L,
            0x391c0cb3c5c95a63L, 0x4ed8aa4ae3418acbL, 0x5b9cca4f7763e373L, 0x682e6ff3d6b2b8a3L,
            0x748f82ee5defb2fcL, 0x78a5636f43172f60L, 0x84c87814a1f0ab72L, 0x8cc702081a6439ecL,
            0x90befffa23631e28L, 0xa4506cebde82bde9L, 0xbef9a3f7b2c67915L, 0xc67178f2e372532bL,
            0xca273eceea26619cL, 0xd186b8c721c0c207L, 0xeada7dd6cde0eb1eL, 0xf57d4f7fee6ed178L,
            0x06f067aa72176fbaL, 0x0a637dc5a2c898a6L, 0x113f9804bef90daeL, 0x1b710b35131c471bL,
            0x28db77f523047d84L, 0x32caab7b40c72493L, 0x3c9ebe0a15c9bebcL, 0x431d67c49c100d4cL,
            0x4cc5d4becb3e42b6L, 0x597f299cfc657e2aL, 0x5fcb6fab3ad6faecL, 0x6c44198c4a475817L
        };
        private static final long[] KECCAK = {
            0x0000000000000001L, 0x0000000000008082L, 0x800000000000808aL, 0x8000000080008000L,
            0x000000000000808bL, 0x0000000080000001L, 0x8000000080008081L, 0x8000000000008009L,
            0x000000000000008aL, 0x0000000000000088L, 0x0000000080008009L, 0x000000008000000aL,
            0x000000008000808bL, 0x800000000000008bL, 0x8000000000008089L, 0x8000000000008003L,
            0x8000000000008002L, 0x8000000000000080L, 0x000000000000800aL, 0x800000008000000aL,
            0x8000000080008081L, 0x8000000000008080L, 0x0000000080000001L, 0x8000000080008008L
        };
        private static final int[] SIGMA = {
            0, 1, 2, 3, 4, 5, 6, 7, 8, 9, 10, 11, 12, 13, 14, 15,
            14, 10, 4, 8, 9, 15, 13, 6, 1, 12, 0, 2, 11, 7, 5, 3,
            11, 8, 12, 0, 5, 2, 15, 13, 10, 14, 3, 6, 7, 1, 9, 4,
            7, 9, 3, 1, 13, 12, 11, 14, 2, 6, 5, 10, 4, 0, 15, 8,
            9, 0, 5, 7, 2, 4, 10, 15, 14, 1, 11, 12, 6, 8, 3, 13,
            2, 12, 6, 10, 0, 11, 8, 3, 4, 13, 7, 5, 15, 14, 1, 9,
            12, 5, 1, 15, 14, 13, 4, 10, 0, 7, 6, 3, 9, 2, 8, 11,
            13, 11, 7, 14, 12, 1, 3, 9, 5, 0, 15, 4, 8, 6, 2, 10,
            6, 15, 14, 9, 11, 3, 0, 8, 12, 2, 13, 7, 1, 4, 10, 5,
            10, 2, 8, 4, 7, 6, 1, 5, 15, 11, 9, 14, 3, 12, 13, 0
        };
        private static final int[] MIXED = {
            0, 4, 8, 12, 1, 5, 9, 13, 2, 6, 10, 14, 3, 7, 11, 15,
            0, 5, 10, 15, 1, 6, 11, 12, 2, 7, 8, 13, 3, 4, 9, 14
        };

        private int kind;
        private int size;
        private int rate = 64;
        private int filled;
        private long total;
        private int suffix;
        private int taken;
        private final int[] block = new int[168];
        private final int[] words = new int[8];
        private final int[] w = new int[80];
        private final long[] lanes = new long[25];
        private final long[] moved = new long[25];
        private final long[] ww = new long[80];

        static boolean allows(int kind, int n) {
            switch (kind) {
                case SHAKE128:
                case SHAKE256:
                    return n >= 0 && n <= MOST;
                case BLAKE2B:
                    return n >= 1 && n <= 64;
                case BLAKE2S:
                    return n >= 1 && n <= 32;
                default:
                    return true;
            }
        }

        static int sizeOf(int kind) {
            return SIZES[kind];
        }

        static int rateOf(int kind) {
            return RATES[kind];
        }

        void start(int newKind, int n) {
            kind = newKind;
            size = kind < SHAKE128 ? SIZES[kind] : n;
            rate = RATES[kind];
            filled = 0;
            total = 0;
            taken = 0;
            suffix = kind < SHAKE128 ? 6 : 31;
            Arrays.fill(lanes, 0);
            switch (kind) {
                case 0:
                    System.arraycopy(START_1, 0, words, 0, 8);
                    break;
                case 1:
                    System.arraycopy(START_224, 0, words, 0, 8);
                    break;
                case SHA256:
                case BLAKE2S:
                    System.arraycopy(START_256, 0, words, 0, 8);
                    break;
                case 3:
                    System.arraycopy(START_384, 0, lanes, 0, 8);
                    break;
                case SHA512:
                case BLAKE2B:
                    System.arraycopy(START_512, 0, lanes, 0, 8);
                    break;
                case 5:
                    System.arraycopy(START_512_256, 0, lanes, 0, 8);
                    break;
                default:
                    break;
            }
            parameters(0);
        }

        /** BLAKE2 puts the sizes of the sum and of the key into its first word. */
        private void parameters(int keySize) {
            int first = 0x01010000 ^ keySize << 8 ^ size;
            if (kind == BLAKE2B) {
                lanes[0] = START_512[0] ^ first;
            } else if (kind == BLAKE2S) {
                words[0] = START_256[0] ^ first;
            }
        }

        /** BLAKE2 with a key: the key, filled up with 0s, is the first block. */
        void startKeyed(int newKind, int n, Row key) {
            start(newKind, n);
            parameters(key.n);
            Arrays.fill(block, 0);
            System.arraycopy(key.b, 0, block, 0, Math.min(key.n, rate));
            filled = rate;
            total = rate;
        }

        /** Begins cSHAKE with the name KMAC, whose padding differs from SHAKE's. */
        void startNamed(int newKind) {
            start(newKind, 0);
            suffix = 4;
        }

        void copy(Digest other) {
            kind = other.kind;
            size = other.size;
            rate = other.rate;
            filled = other.filled;
            total = other.total;
            suffix = other.suffix;
            taken = other.taken;
            System.arraycopy(other.block, 0, block, 0, filled);
            System.arraycopy(other.words, 0, words, 0, 8);
            System.arraycopy(other.lanes, 0, lanes, 0, 25);
        }

        void eat(int[] from, int at, int len) {
            int done = 0;
            for (int i = 0; i < len && done < len; i++) {
                // BLAKE2 must know its last block, so a full one waits until more comes.
                if (filled == rate) {
                    press(false);
                }
                int part = Math.min(rate - filled, len - done);
                System.arraycopy(from, at + done, block, filled, part);
                filled += part;
                total += part;
                done += part;
                if (filled == rate && kind < BLAKE2B) {
                    press(false);
                }
            }
        }

        void eatByte(int v) {
            if (filled == rate) {
                press(false);
            }
            block[filled] = v & 255;
            filled++;
            total++;
            if (filled == rate && kind < BLAKE2B) {
                press(false);
            }
        }

        /** Of a short text; not for BLAKE2. */
        void eatText(String s) {
            for (int i = 0; i < s.length(); i++) {
                block[filled] = s.charAt(i) & 255;
                filled++;
                total++;
                if (filled == rate) {
                    press(false);
                }
            }
        }

        private void press(boolean last) {
            if (kind <= 5) {
                loadWords(rate / 4);
            }
            if (kind == 0) {
                sha1();
            } else if (kind <= SHA256) {
                sha256();
            } else if (kind <= 5) {
                sha512();
            } else if (kind <= SHAKE256) {
                absorb();
                keccak();
            } else if (kind == BLAKE2B) {
                blake2b(last);
            } else {
                blake2s(last);
            }
            filled = 0;
        }

        /** Ends the hash: so many bytes as it has go to a place in an array. */
        int finish(int[] to, int at) {
            if (kind <= 5) {
                block[filled] = 128;
                Arrays.fill(block, filled + 1, rate, 0);
                if (filled + 1 > rate - rate / 8) {
                    press(false);
                    Arrays.fill(block, 0, rate, 0);
                }
                writeLength();
                press(false);
            } else if (kind <= SHAKE256) {
                endInput();
                for (int i = 0; i < size; i++) {
                    to[at + i] = next();
                }
                return size;
            } else {
                Arrays.fill(block, filled, rate, 0);
                press(true);
            }
            for (int i = 0; i < size; i++) {
                to[at + i] = stateByte(i);
            }
            return size;
        }

        private void writeLength() {
            long bits = total * 8;
            for (int i = 0; i < 8; i++) {
                block[rate - 1 - i] = (int) (bits >>> (8 * i)) & 255;
            }
        }

        private int stateByte(int i) {
            if (kind <= SHA256) {
                return words[i >> 2] >>> (24 - 8 * (i & 3)) & 255;
            }
            if (kind <= 5) {
                return (int) (lanes[i >> 3] >>> (56 - 8 * (i & 7))) & 255;
            }
            if (kind == BLAKE2B) {
                return (int) (lanes[i >> 3] >>> (8 * (i & 7))) & 255;
            }
            return words[i >> 2] >>> (8 * (i & 3)) & 255;
        }

        /** Ends what a sponge takes in, so that next can be asked of it. */
        void endInput() {
            Arrays.fill(block, filled, rate, 0);
            block[filled] = suffix;
            block[rate - 1] |= 128;
            absorb();
            keccak();
            taken = 0;
        }

        int next() {
            if (taken == rate) {
                keccak();
                taken = 0;
            }
            int v = (int) (lanes[taken >> 3] >>> (8 * (taken & 7))) & 255;
            taken++;
            return v;
        }

        private void absorb() {
            for (int i = 0; i < rate; i += 8) {
                long low = block[i] | block[i + 1] << 8 | block[i + 2] << 16 | (long) block[i + 3] << 24;
                long high = block[i + 4] | block[i + 5] << 8 | block[i + 6] << 16 | (long) block[i + 7] << 24;
                lanes[i >> 3] ^= low & LOW | high << 32;
            }
        }

        private void keccak() {
            long[] a = lanes;
            long[] b = moved;
            for (int round = 0; round < 24; round++) {
                long c0 = a[0] ^ a[5] ^ a[10] ^ a[15] ^ a[20];
                long c1 = a[1] ^ a[6] ^ a[11] ^ a[16] ^ a[21];
                long c2 = a[2] ^ a[7] ^ a[12] ^ a[17] ^ a[22];
                long c3 = a[3] ^ a[8] ^ a[13] ^ a[18] ^ a[23];
                long c4 = a[4] ^ a[9] ^ a[14] ^ a[19] ^ a[24];
                long d0 = c4 ^ (c1 << 1 | c1 >>> 63);
                long d1 = c0 ^ (c2 << 1 | c2 >>> 63);
                long d2 = c1 ^ (c3 << 1 | c3 >>> 63);
                long d3 = c2 ^ (c4 << 1 | c4 >>> 63);
                long d4 = c3 ^ (c0 << 1 | c0 >>> 63);
                long t;
                b[0] = a[0] ^ d0;
                t = a[6] ^ d1; b[1] = t << 44 | t >>> 20;
                t = a[12] ^ d2; b[2] = t << 43 | t >>> 21;
                t = a[18] ^ d3; b[3] = t << 21 | t >>> 43;
                t = a[24] ^ d4; b[4] = t << 14 | t >>> 50;
                t = a[3] ^ d3; b[5] = t << 28 | t >>> 36;
                t = a[9] ^ d4; b[6] = t << 20 | t >>> 44;
                t = a[10] ^ d0; b[7] = t << 3 | t >>> 61;
                t = a[16] ^ d1; b[8] = t << 45 | t >>> 19;
                t = a[22] ^ d2; b[9] = t << 61 | t >>> 3;
                t = a[1] ^ d1; b[10] = t << 1 | t >>> 63;
                t = a[7] ^ d2; b[11] = t << 6 | t >>> 58;
                t = a[13] ^ d3; b[12] = t << 25 | t >>> 39;
                t = a[19] ^ d4; b[13] = t << 8 | t >>> 56;
                t = a[20] ^ d0; b[14] = t << 18 | t >>> 46;
                t = a[4] ^ d4; b[15] = t << 27 | t >>> 37;
                t = a[5] ^ d0; b[16] = t << 36 | t >>> 28;
                t = a[11] ^ d1; b[17] = t << 10 | t >>> 54;
                t = a[17] ^ d2; b[18] = t << 15 | t >>> 49;
                t = a[23] ^ d3; b[19] = t << 56 | t >>> 8;
                t = a[2] ^ d2; b[20] = t << 62 | t >>> 2;
                t = a[8] ^ d3; b[21] = t << 55 | t >>> 9;
                t = a[14] ^ d4; b[22] = t << 39 | t >>> 25;
                t = a[15] ^ d0; b[23] = t << 41 | t >>> 23;
                t = a[21] ^ d1; b[24] = t << 2 | t >>> 62;
                for (int y = 0; y < 25; y += 5) {
                    long b0 = b[y];
                    long b1 = b[y + 1];
                    long b2 = b[y + 2];
                    long b3 = b[y + 3];
                    long b4 = b[y + 4];
                    a[y] = b0 ^ ~b1 & b2;
                    a[y + 1] = b1 ^ ~b2 & b3;
                    a[y + 2] = b2 ^ ~b3 & b4;
                    a[y + 3] = b3 ^ ~b4 & b0;
                    a[y + 4] = b4 ^ ~b0 & b1;
                }
                a[0] ^= KECCAK[round];
            }
        }

        private void loadWords(int count) {
            for (int i = 0; i < count; i++) {
                w[i] = block[4 * i] << 24 | block[4 * i + 1] << 16 | block[4 * i + 2] << 8 | block[4 * i + 3];
            }
        }

        private void sha1() {
            for (int i = 16; i < 80; i++) {
                int x = w[i - 3] ^ w[i - 8] ^ w[i - 14] ^ w[i - 16];
                w[i] = x << 1 | x >>> 31;
            }
            int a = words[0];
            int b = words[1];
            int c = words[2];
            int d = words[3];
            int e = words[4];
            for (int i = 0; i < 80; i++) {
                int f;
                if (i < 20) {
                    f = (b & c | ~b & d) + 0x5a827999;
                } else if (i < 40) {
                    f = (b ^ c ^ d) + 0x6ed9eba1;
                } else if (i < 60) {
                    f = (b & c | b & d | c & d) + 0x8f1bbcdc;
                } else {
                    f = (b ^ c ^ d) + 0xca62c1d6;
                }
                int t = (a << 5 | a >>> 27) + f + e + w[i];
                e = d;
                d = c;
                c = b << 30 | b >>> 2;
                b = a;
                a = t;
            }
            words[0] += a;
            words[1] += b;
            words[2] += c;
            words[3] += d;
            words[4] += e;
        }

        private void sha256() {
            for (int i = 16; i < 64; i++) {
                int x = w[i - 15];
                int y = w[i - 2];
                int s = (x >>> 7 | x << 25) ^ (x >>> 18 | x << 14) ^ x >>> 3;
                w[i] = w[i - 16] + s + w[i - 7] + ((y >>> 17 | y << 15) ^ (y >>> 19 | y << 13) ^ y >>> 10);
            }
            int a = words[0];
            int b = words[1];
            int c = words[2];
            int d = words[3];
            int e = words[4];
            int f = words[5];
            int g = words[6];
            int h = words[7];
            for (int i = 0; i < 64; i++) {
                int s = (e >>> 6 | e << 26) ^ (e >>> 11 | e << 21) ^ (e >>> 25 | e << 7);
                int t = h + s + (e & f ^ ~e & g) + K32[i] + w[i];
                s = (a >>> 2 | a << 30) ^ (a >>> 13 | a << 19) ^ (a >>> 22 | a << 10);
                h = g;
                g = f;
                f = e;
                e = d + t;
                t += s + (a & b ^ a & c ^ b & c);
                d = c;
                c = b;
                b = a;
                a = t;
            }
            words[0] += a;
            words[1] += b;
            words[2] += c;
            words[3] += d;
            words[4] += e;
            words[5] += f;
            words[6] += g;
            words[7] += h;
        }

        private void sha512() {
            for (int i = 0; i < 16; i++) {
                ww[i] = (long) w[2 * i] << 32 | w[2 * i + 1] & LOW;
            }
            for (int i = 16; i < 80; i++) {
                long x = ww[i - 15];
                long y = ww[i - 2];
                long s = (x >>> 1 | x << 63) ^ (x >>> 8 | x << 56) ^ x >>> 7;
                ww[i] = ww[i - 16] + s + ww[i - 7] + ((y >>> 19 | y << 45) ^ (y >>> 61 | y << 3) ^ y >>> 6);
            }
            long a = lanes[0];
            long b = lanes[1];
            long c = lanes[2];
            long d = lanes[3];
            long e = lanes[4];
            long f = lanes[5];
            long g = lanes[6];
            long h = lanes[7];
            for (int i = 0; i < 80; i++) {
                long s = (e >>> 14 | e << 50) ^ (e >>> 18 | e << 46) ^ (e >>> 41 | e << 23);
                long t = h + s + (e & f ^ ~e & g) + K64[i] + ww[i];
                s = (a >>> 28 | a << 36) ^ (a >>> 34 | a << 30) ^ (a >>> 39 | a << 25);
                h = g;
                g = f;
                f = e;
                e = d + t;
                t += s + (a & b ^ a & c ^ b & c);
                d = c;
                c = b;
                b = a;
                a = t;
            }
            lanes[0] += a;
            lanes[1] += b;
            lanes[2] += c;
            lanes[3] += d;
            lanes[4] += e;
            lanes[5] += f;
            lanes[6] += g;
            lanes[7] += h;
        }

        private void blake2b(boolean last) {
            long[] m = ww;
            long[] v = moved;
            for (int i = 0; i < 16; i++) {
                long word = 0;
                for (int j = 7; j >= 0; j--) {
                    word = word << 8 | block[8 * i + j];
                }
                m[i] = word;
            }
            for (int i = 0; i < 8; i++) {
                v[i] = lanes[i];
                v[i + 8] = START_512[i];
            }
            v[12] ^= total;
            if (last) {
                v[14] = ~v[14];
            }
            for (int round = 0; round < 12; round++) {
                int s = round % 10 * 16;
                for (int i = 0; i < 8; i++) {
                    int a = MIXED[4 * i];
                    int b = MIXED[4 * i + 1];
                    int c = MIXED[4 * i + 2];
                    int d = MIXED[4 * i + 3];
                    v[a] += v[b] + m[SIGMA[s + 2 * i]];
                    v[d] ^= v[a];
                    v[d] = v[d] >>> 32 | v[d] << 32;
                    v[c] += v[d];
                    v[b] ^= v[c];
                    v[b] = v[b] >>> 24 | v[b] << 40;
                    v[a] += v[b] + m[SIGMA[s + 2 * i + 1]];
                    v[d] ^= v[a];
                    v[d] = v[d] >>> 16 | v[d] << 48;
                    v[c] += v[d];
                    v[b] ^= v[c];
                    v[b] = v[b] >>> 63 | v[b] << 1;
                }
            }
            for (int i = 0; i < 8; i++) {
                lanes[i] ^= v[i] ^ v[i + 8];
            }
        }

        private void blake2s(boolean last) {
            int[] v = w;
            for (int i = 0; i < 16; i++) {
                v[16 + i] = block[4 * i] | block[4 * i + 1] << 8 | block[4 * i + 2] << 16 | block[4 * i + 3] << 24;
            }
            for (int i = 0; i < 8; i++) {
                v[i] = words[i];
                v[i + 8] = START_256[i];
            }
            v[12] ^= (int) total;
            v[13] ^= (int) (total >>> 32);
            if (last) {
                v[14] = ~v[14];
            }
            for (int round = 0; round < 10; round++) {
                int s = round * 16;
                for (int i = 0; i < 8; i++) {
                    int a = MIXED[4 * i];
                    int b = MIXED[4 * i + 1];
                    int c = MIXED[4 * i + 2];
                    int d = MIXED[4 * i + 3];
                    v[a] += v[b] + v[16 + SIGMA[s + 2 * i]];
                    v[d] ^= v[a];
                    v[d] = v[d] >>> 16 | v[d] << 16;
                    v[c] += v[d];
                    v[b] ^= v[c];
                    v[b] = v[b] >>> 12 | v[b] << 20;
                    v[a] += v[b] + v[16 + SIGMA[s + 2 * i + 1]];
                    v[d] ^= v[a];
                    v[d] = v[d] >>> 8 | v[d] << 24;
                    v[c] += v[d];
                    v[b] ^= v[c];
                    v[b] = v[b] >>> 7 | v[b] << 25;
                }
            }
            for (int i = 0; i < 8; i++) {
                words[i] ^= v[i] ^ v[i + 8];
            }
        }
    }

    /** Keyed sums of hashes, and the keys that are derived and stretched with them. */
    private static final class Mac {
        private final Digest inner = new Digest();
        private final Digest outer = new Digest();
        private final Digest run = new Digest();
        private final int[] pad = new int[168];
        private final int[] tag = new int[64];
        private final int[] mixed = new int[64];
        private final int[] secretKey = new int[64];
        private final Row text = new Row(MOST + 256);
        private final Row blocks = new Row(2048);
        /** What HPKE's keys are derived from: the point that both have, and what was told in the open. */
        final Row shared = new Row(32);
        final Row context = new Row(64);
        final Row hybridKey = new Row(32);
        final Row hybridNonce = new Row(12);
        private final int[] x = new int[128];
        private final int[] y = new int[128];
        private final int[] z = new int[16];
        private final int[] store = new int[8192];

        /** Makes the two halves of HMAC ready for a key. */
        void lock(int h, int[] key, int at, int len) {
            int rate = Digest.rateOf(h);
            Arrays.fill(pad, 0);
            if (len > rate) {
                run.start(h, 0);
                run.eat(key, at, len);
                run.finish(pad, 0);
            } else {
                System.arraycopy(key, at, pad, 0, len);
            }
            for (int i = 0; i < rate; i++) {
                pad[i] ^= 0x36;
            }
            inner.start(h, 0);
            inner.eat(pad, 0, rate);
            for (int i = 0; i < rate; i++) {
                pad[i] ^= 0x36 ^ 0x5c;
            }
            outer.start(h, 0);
            outer.eat(pad, 0, rate);
            run.copy(inner);
        }

        void eat(int[] from, int at, int len) {
            run.eat(from, at, len);
        }

        void eat(Row r) {
            run.eat(r.b, 0, r.n);
        }

        void eatByte(int v) {
            run.eatByte(v);
        }

        /** Ends one sum; the next one with the same key may begin at once. */
        int finish(int[] to, int at) {
            int size = run.finish(mixed, 0);
            run.copy(outer);
            run.eat(mixed, 0, size);
            run.finish(to, at);
            run.copy(inner);
            return size;
        }

        int hmac(int h, Row key, Row message, Row out) {
            lock(h, key.b, 0, key.n);
            eat(message);
            out.n = finish(out.b, 0);
            return out.n;
        }

        int blake(int h, int n, Row key, Row message, Row out) {
            int most = h == Digest.BLAKE2B ? 64 : 32;
            if (key.n < 1 || key.n > most || !Digest.allows(h, n)) {
                return BAD;
            }
            run.startKeyed(h, n, key);
            run.eat(message.b, 0, message.n);
            out.n = run.finish(out.b, 0);
            return out.n;
        }

        /** KMAC128 with SHAKE128's rate, KMAC256 with SHAKE256's. */
        int kmac(int h, int n, Row key, Row message, Row out) {
            if (!Digest.allows(h, n)) {
                return BAD;
            }
            int rate = Digest.rateOf(h);
            run.startNamed(h);
            int fed = leftEncode(rate) + leftEncode(32);
            run.eatText("KMAC");
            fed += 4 + leftEncode(0);
            fillUp(fed, rate);
            fed = leftEncode(rate) + leftEncode(8 * key.n);
            run.eat(key.b, 0, key.n);
            fillUp(fed + key.n, rate);
            run.eat(message.b, 0, message.n);
            rightEncode(8 * n);
            run.endInput();
            out.clear();
            for (int i = 0; i < n; i++) {
                out.push(run.next());
            }
            return out.n;
        }

        private static int bytesOf(int v) {
            return v < 256 ? 1 : v < 65536 ? 2 : 3;
        }

        private int leftEncode(int v) {
            int count = bytesOf(v);
            run.eatByte(count);
            for (int i = count - 1; i >= 0; i--) {
                run.eatByte(v >>> (8 * i));
            }
            return count + 1;
        }

        private void rightEncode(int v) {
            int count = bytesOf(v);
            for (int i = count - 1; i >= 0; i--) {
                run.eatByte(v >>> (8 * i));
            }
            run.eatByte(count);
        }

        private void fillUp(int fed, int rate) {
            int rest = (rate - fed % rate) % rate;
            for (int i = 0; i < rest; i++) {
                run.eatByte(0);
            }
        }

        int hkdf(int h, Row secret, Row salt, Row info, int n, Row out) {
            int size = Digest.sizeOf(h);
            if (n < 0 || n > MOST || n > 255 * size) {
                return BAD;
            }
            lock(h, salt.b, 0, salt.n);
            eat(secret);
            finish(secretKey, 0);
            expand(h, secretKey, info, n, out);
            return out.n;
        }

        private void expand(int h, int[] key, Row info, int n, Row out) {
            int size = Digest.sizeOf(h);
            lock(h, key, 0, size);
            out.clear();
            for (int i = 1; i <= 255 && out.n < n; i++) {
                if (i > 1) {
                    eat(tag, 0, size);
                }
                eat(info);
                eatByte(i);
                finish(tag, 0);
                out.add(tag, 0, Math.min(size, n - out.n));
            }
        }

        int stretched(int h, Row password, Row salt, int rounds, int n, Row out) {
            if (rounds < 1 || rounds > 1000 || n < 1 || n > 256) {
                return BAD;
            }
            pbkdf2(h, password, salt, rounds, n, out);
            return out.n;
        }

        private void pbkdf2(int h, Row password, Row salt, int rounds, int n, Row out) {
            int size = Digest.sizeOf(h);
            lock(h, password.b, 0, password.n);
            out.clear();
            for (int i = 1; i <= 2048 && out.n < n; i++) {
                eat(salt);
                eatByte(i >>> 24);
                eatByte(i >>> 16);
                eatByte(i >>> 8);
                eatByte(i);
                finish(tag, 0);
                System.arraycopy(tag, 0, secretKey, 0, size);
                for (int r = 1; r < rounds; r++) {
                    eat(tag, 0, size);
                    finish(tag, 0);
                    for (int j = 0; j < size; j++) {
                        secretKey[j] ^= tag[j];
                    }
                }
                out.add(secretKey, 0, Math.min(size, n - out.n));
            }
        }

        int scrypted(Row password, Row salt, int cost, int r, int p, int n, Row out) {
            boolean power = cost >= 2 && cost <= 64 && (cost & cost - 1) == 0;
            if (!power || r < 1 || r > 4 || p < 1 || p > 4 || n < 1 || n > 256) {
                return BAD;
            }
            pbkdf2(Digest.SHA256, password, salt, 1, 128 * r * p, blocks);
            for (int i = 0; i < p; i++) {
                mixBlock(128 * r * i, r, cost);
            }
            pbkdf2(Digest.SHA256, password, blocks, 1, n, out);
            return out.n;
        }

        private void mixBlock(int at, int r, int cost) {
            int words = 32 * r;
            int[] b = blocks.b;
            for (int i = 0; i < words; i++) {
                int k = at + 4 * i;
                x[i] = b[k] | b[k + 1] << 8 | b[k + 2] << 16 | b[k + 3] << 24;
            }
            for (int i = 0; i < cost; i++) {
                System.arraycopy(x, 0, store, i * words, words);
                mixSalsa(r);
            }
            for (int i = 0; i < cost; i++) {
                int from = (x[words - 16] & cost - 1) * words;
                for (int j = 0; j < words; j++) {
                    x[j] ^= store[from + j];
                }
                mixSalsa(r);
            }
            for (int i = 0; i < 4 * words; i++) {
                b[at + i] = x[i >> 2] >>> (8 * (i & 3)) & 255;
            }
        }

        private void mixSalsa(int r) {
            System.arraycopy(x, 32 * r - 16, z, 0, 16);
            for (int i = 0; i < 2 * r; i++) {
                for (int j = 0; j < 16; j++) {
                    z[j] ^= x[16 * i + j];
                }
                salsa();
                int to = (i & 1) == 0 ? 8 * i : 16 * r + 8 * (i - 1);
                System.arraycopy(z, 0, y, to, 16);
            }
            System.arraycopy(y, 0, x, 0, 32 * r);
        }

        private void salsa() {
            int[] s = mixed;
            System.arraycopy(z, 0, s, 0, 16);
            for (int i = 0; i < 4; i++) {
                for (int k = 0; k < 4; k++) {
                    quarter(s, 5 * k, (5 * k + 4) % 16, (5 * k + 8) % 16, (5 * k + 12) % 16);
                }
                for (int k = 0; k < 4; k++) {
                    quarter(s, 5 * k, 4 * k + (k + 1) % 4, 4 * k + (k + 2) % 4, 4 * k + (k + 3) % 4);
                }
            }
            for (int i = 0; i < 16; i++) {
                z[i] += s[i];
            }
        }

        private static void quarter(int[] s, int a, int b, int c, int d) {
            int t = s[a] + s[d];
            s[b] ^= t << 7 | t >>> 25;
            t = s[b] + s[a];
            s[c] ^= t << 9 | t >>> 23;
            t = s[c] + s[b];
            s[d] ^= t << 13 | t >>> 19;
            t = s[d] + s[c];
            s[a] ^= t << 18 | t >>> 14;
        }

        /** HPKE's key and nonce from what is in shared and context. */
        void hybrid(int aead, Row info) {
            hybridText(-1, "eae_prk");
            text.add(shared.b, 0, 32);
            extract(false);
            hybridExpand(-1, "shared_secret", context, 32, shared);
            hybridText(aead, "psk_id_hash");
            extract(false);
            blocks.clear();
            blocks.push(0);
            blocks.add(secretKey, 0, 32);
            hybridText(aead, "info_hash");
            text.add(info.b, 0, info.n);
            extract(false);
            blocks.add(secretKey, 0, 32);
            hybridText(aead, "secret");
            extract(true);
            hybridExpand(aead, "key", blocks, aead == 0 ? 16 : 32, hybridKey);
            hybridExpand(aead, "base_nonce", blocks, 12, hybridNonce);
        }

        /** What stands ahead of each text that HPKE hashes; without an aead it is the KEM's own. */
        private void hybridText(int aead, String label) {
            text.clear();
            hybridLabel(aead, label);
        }

        private void hybridLabel(int aead, String label) {
            text.text("HPKE-v1");
            if (aead < 0) {
                text.text("KEM");
                text.number(0x20, 2);
            } else {
                text.text("HPKE");
                text.number(0x20, 2);
                text.number(1, 2);
                text.number(aead + 1, 2);
            }
            text.text(label);
        }

        private void extract(boolean salted) {
            lock(Digest.SHA256, shared.b, 0, salted ? 32 : 0);
            eat(text);
            finish(secretKey, 0);
        }

        private void hybridExpand(int aead, String label, Row info, int n, Row out) {
            text.clear();
            text.number(n, 2);
            hybridLabel(aead, label);
            text.add(info.b, 0, info.n);
            expand(Digest.SHA256, secretKey, text, n, out);
        }
    }

    /** The block ciphers AES, DES and thrice DES, their modes, and CMAC. */
    private static final class Cipher {
        private static final int AES = 0;
        private static final int DES = 1;
        private static final char[] BOXES = {
            14, 4, 13, 1, 2, 15, 11, 8, 3, 10, 6, 12, 5, 9, 0, 7, 0, 15, 7, 4, 14, 2, 13, 1, 10, 6, 12, 11, 9, 5, 3, 8,
            4, 1, 14, 8, 13, 6, 2, 11, 15, 12, 9, 7, 3, 10, 5, 0, 15, 12, 8, 2, 4, 9, 1, 7, 5, 11, 3, 14, 10, 0, 6, 13,
            15, 1, 8, 14, 6, 11, 3, 4, 9, 7, 2, 13, 12, 0, 5, 10, 3, 13, 4, 7, 15, 2, 8, 14, 12, 0, 1, 10, 6, 9, 11, 5,
            0, 14, 7, 11, 10, 4, 13, 1, 5, 8, 12, 6, 9, 3, 2, 15, 13, 8, 10, 1, 3, 15, 4, 2, 11, 6, 7, 12, 0, 5, 14, 9,
            10, 0, 9, 14, 6, 3, 15, 5, 1, 13, 12, 7, 11, 4, 2, 8, 13, 7, 0, 9, 3, 4, 6, 10, 2, 8, 5, 14, 12, 11, 15, 1,
            13, 6, 4, 9, 8, 15, 3, 0, 11, 1, 2, 12, 5, 10, 14, 7, 1, 10, 13, 0, 6, 9, 8, 7, 4, 15, 14, 3, 11, 5, 2, 12,
            7, 13, 14, 3, 0, 6, 9, 10, 1, 2, 8, 5, 11, 12, 4, 15, 13, 8, 11, 5, 6, 15, 0, 3, 4, 7, 2, 12, 1, 10, 14, 9,
            10, 6, 9, 0, 12, 11, 7, 13, 15, 1, 3, 14, 5, 2, 8, 4, 3, 15, 0, 6, 10, 1, 13, 8, 9, 4, 5, 11, 12, 7, 2, 14,
            2, 12, 4, 1, 7, 10, 11, 6, 8, 5, 3, 15, 13, 0, 14, 9, 14, 11, 2, 12, 4, 7, 13, 1, 5, 0, 15, 10, 3, 9, 8, 6,
            4, 2, 1, 11, 10, 13, 7, 8, 15, 9, 12, 5, 6, 3, 0, 14, 11, 8, 12, 7, 1, 14, 2, 13, 6, 15, 0, 9, 10, 4, 5, 3,
            12, 1, 10, 15, 9, 2, 6, 8, 0, 13, 3, 4, 14, 7, 5, 11, 10, 15, 4, 2, 7, 12, 9, 5, 6, 1, 13, 14, 0, 11, 3, 8,
            9, 14, 15, 5, 2, 8, 12, 3, 7, 0, 4, 10, 1, 13, 11, 6, 4, 3, 2, 12, 9, 5, 15, 10, 11, 14, 1, 7, 6, 0, 8, 13,
            4, 11, 2, 14, 15, 0, 8, 13, 3, 12, 9, 7, 5, 10, 6, 1, 13, 0, 11, 7, 4, 9, 1, 10, 14, 3, 5, 12, 2, 15, 8, 6,
            1, 4, 11, 13, 12, 3, 7, 14, 10, 15, 6, 8, 0, 5, 9, 2, 6, 11, 13, 8, 1, 4, 10, 7, 9, 5, 0, 15, 14, 2, 3, 12,
            13, 2, 8, 4, 6, 15, 11, 1, 10, 9, 3, 14, 5, 0, 12, 7, 1, 15, 13, 8, 10, 3, 7, 4, 12, 5, 6, 11, 0, 14, 9, 2,
            7, 11, 4, 1, 9, 12, 14, 2, 0, 6, 10, 13, 15, 3, 5, 8, 2, 1, 14, 7, 4, 10, 8, 13, 15, 12, 9, 0, 3, 5, 6, 11
        };
        private static final char[] SPREAD = {
            16, 7, 20, 21, 29, 12, 28, 17, 1, 15, 23, 26, 5, 18, 31, 10,
            2, 8, 24, 14, 32, 27, 3, 9, 19, 13, 30, 6, 22, 11, 4, 25
        };
        private static final char[] CHOICE = {
            57, 49, 41, 33, 25, 17, 9, 1, 58, 50, 42, 34, 26, 18, 10, 2, 59, 51, 43, 35, 27, 19, 11, 3, 60, 52, 44, 36,
            63, 55, 47, 39, 31, 23, 15, 7, 62, 54, 46, 38, 30, 22, 14, 6, 61, 53, 45, 37, 29, 21, 13, 5, 28, 20, 12, 4
        };
        private static final char[] PICKED = {
            14, 17, 11, 24, 1, 5, 3, 28, 15, 6, 21, 10, 23, 19, 12, 4, 26, 8, 16, 7, 27, 20, 13, 2,
            41, 52, 31, 37, 47, 55, 30, 40, 51, 45, 33, 48, 44, 49, 39, 56, 34, 53, 46, 42, 50, 36, 29, 32
        };
        private static final char[] FIRST = {
            58, 50, 42, 34, 26, 18, 10, 2, 60, 52, 44, 36, 28, 20, 12, 4,
            62, 54, 46, 38, 30, 22, 14, 6, 64, 56, 48, 40, 32, 24, 16, 8,
            57, 49, 41, 33, 25, 17, 9, 1, 59, 51, 43, 35, 27, 19, 11, 3,
            61, 53, 45, 37, 29, 21, 13, 5, 63, 55, 47, 39, 31, 23, 15, 7
        };
        private static final char[] LAST = {
            40, 8, 48, 16, 56, 24, 64, 32, 39, 7, 47, 15, 55, 23, 63, 31,
            38, 6, 46, 14, 54, 22, 62, 30, 37, 5, 45, 13, 53, 21, 61, 29,
            36, 4, 44, 12, 52, 20, 60, 28, 35, 3, 43, 11, 51, 19, 59, 27,
            34, 2, 42, 10, 50, 18, 58, 26, 33, 1, 41, 9, 49, 17, 57, 25
        };

        private int kind;
        private int size = 16;
        private int rounds;
        private final int[] box = new int[256];
        private final int[] unbox = new int[256];
        private final int[] table = new int[256];
        private final int[] untable = new int[256];
        private final int[] keys = new int[60];
        private final int[] unkeys = new int[60];
        private final int[] sets = new int[512];
        private final int[] desKeys = new int[384];
        private final int[] chain = new int[16];
        private final int[] spare = new int[16];
        private final int[] tweak = new int[16];
        private final int[] half = new int[16];

        Cipher() {
            int p = 1;
            int q = 1;
            for (int i = 0; i < 255; i++) {
                p = p ^ p << 1 ^ (p >= 128 ? 0x11b : 0);
                q ^= q << 1;
                q ^= q << 2;
                q ^= q << 4;
                q &= 255;
                q ^= q >= 128 ? 9 : 0;
                int s = q * 0x101;
                box[p] = (s ^ s >> 4 ^ s >> 5 ^ s >> 6 ^ s >> 7 ^ 0x63) & 255;
            }
            box[0] = 0x63;
            for (int i = 0; i < 256; i++) {
                unbox[box[i]] = i;
            }
            for (int i = 0; i < 256; i++) {
                int s = box[i];
                int s2 = twice(s);
                table[i] = s2 << 24 | s << 16 | s << 8 | s2 ^ s;
                untable[i] = unmixed(unbox[i]);
            }
            for (int i = 0; i < 512; i++) {
                sets[i] = spread(i >> 6, i & 63);
            }
        }

        private static int twice(int v) {
            return v << 1 ^ (v >= 128 ? 0x11b : 0);
        }

        private static int unmixed(int v) {
            int v2 = twice(v);
            int v4 = twice(v2);
            int v8 = twice(v4);
            return (v8 ^ v4 ^ v2) << 24 | (v8 ^ v) << 16 | (v8 ^ v4 ^ v) << 8 | v8 ^ v2 ^ v;
        }

        /** What DES's box number i makes of six bits, already spread over the 32. */
        private static int spread(int i, int six) {
            int row = six >> 4 & 2 | six & 1;
            int four = BOXES[64 * i + 16 * row + (six >> 1 & 15)];
            int word = four << (28 - 4 * i);
            int moved = 0;
            for (int k = 0; k < 32; k++) {
                moved = moved << 1 | word >>> (32 - SPREAD[k]) & 1;
            }
            return moved;
        }

        static boolean isAesKey(int n) {
            return n == 16 || n == 24 || n == 32;
        }

        /** Makes AES ready for a key of 16, 24 or 32 bytes. */
        void lockAes(int[] key, int at, int n) {
            kind = AES;
            size = 16;
            int words = n / 4;
            rounds = words + 6;
            int count = 4 * rounds + 4;
            for (int i = 0; i < words; i++) {
                keys[i] = word(key, at + 4 * i);
            }
            int turn = 1;
            int step = 0;
            for (int i = words; i < count; i++) {
                int t = keys[i - 1];
                if (step == 0) {
                    t = boxed(t << 8 | t >>> 24) ^ turn << 24;
                    turn = twice(turn);
                } else if (step == 4 && words == 8) {
                    t = boxed(t);
                }
                keys[i] = keys[i - words] ^ t;
                step = step + 1 == words ? 0 : step + 1;
            }
            for (int i = 0; i < count; i++) {
                int t = keys[i];
                boolean outer = i < 4 || i >= count - 4;
                unkeys[i] = outer ? t : untabled(box[t >>> 24], box[t >>> 16 & 255], box[t >>> 8 & 255], box[t & 255]);
            }
        }

        private static int word(int[] a, int at) {
            return a[at] << 24 | a[at + 1] << 16 | a[at + 2] << 8 | a[at + 3];
        }

        private static void putWord(int[] a, int at, int v) {
            a[at] = v >>> 24;
            a[at + 1] = v >>> 16 & 255;
            a[at + 2] = v >>> 8 & 255;
            a[at + 3] = v & 255;
        }

        private int boxed(int t) {
            return box[t >>> 24] << 24 | box[t >>> 16 & 255] << 16 | box[t >>> 8 & 255] << 8 | box[t & 255];
        }

        private int tabled(int a, int b, int c, int d) {
            int x = table[b];
            int y = table[c];
            int z = table[d];
            return table[a] ^ (x >>> 8 | x << 24) ^ (y >>> 16 | y << 16) ^ (z >>> 24 | z << 8);
        }

        private int untabled(int a, int b, int c, int d) {
            int x = untable[b];
            int y = untable[c];
            int z = untable[d];
            return untable[a] ^ (x >>> 8 | x << 24) ^ (y >>> 16 | y << 16) ^ (z >>> 24 | z << 8);
        }

        void aesThere(int[] from, int at, int[] to, int into) {
            int a = word(from, at) ^ keys[0];
            int b = word(from, at + 4) ^ keys[1];
            int c = word(from, at + 8) ^ keys[2];
            int d = word(from, at + 12) ^ keys[3];
            int k = 4;
            for (int i = 1; i < rounds; i++) {
                int e = tabled(a >>> 24, b >>> 16 & 255, c >>> 8 & 255, d & 255) ^ keys[k];
                int f = tabled(b >>> 24, c >>> 16 & 255, d >>> 8 & 255, a & 255) ^ keys[k + 1];
                int g = tabled(c >>> 24, d >>> 16 & 255, a >>> 8 & 255, b & 255) ^ keys[k + 2];
                d = tabled(d >>> 24, a >>> 16 & 255, b >>> 8 & 255, c & 255) ^ keys[k + 3];
                a = e;
                b = f;
                c = g;
                k += 4;
            }
            int high = 0xff000000;
            int low = 0xff00;
            putWord(to, into, boxed(a & high | b & 0xff0000 | c & low | d & 255) ^ keys[k]);
            putWord(to, into + 4, boxed(b & high | c & 0xff0000 | d & low | a & 255) ^ keys[k + 1]);
            putWord(to, into + 8, boxed(c & high | d & 0xff0000 | a & low | b & 255) ^ keys[k + 2]);
            putWord(to, into + 12, boxed(d & high | a & 0xff0000 | b & low | c & 255) ^ keys[k + 3]);
        }

        private int unboxed(int a, int b, int c, int d) {
            return unbox[a >>> 24] << 24 | unbox[b >>> 16 & 255] << 16 | unbox[c >>> 8 & 255] << 8 | unbox[d & 255];
        }

        void aesBack(int[] from, int at, int[] to, int into) {
            int k = 4 * rounds;
            int a = word(from, at) ^ unkeys[k];
            int b = word(from, at + 4) ^ unkeys[k + 1];
            int c = word(from, at + 8) ^ unkeys[k + 2];
            int d = word(from, at + 12) ^ unkeys[k + 3];
            for (int i = 1; i < rounds; i++) {
                k -= 4;
                int e = untabled(a >>> 24, d >>> 16 & 255, c >>> 8 & 255, b & 255) ^ unkeys[k];
                int f = untabled(b >>> 24, a >>> 16 & 255, d >>> 8 & 255, c & 255) ^ unkeys[k + 1];
                int g = untabled(c >>> 24, b >>> 16 & 255, a >>> 8 & 255, d & 255) ^ unkeys[k + 2];
                d = untabled(d >>> 24, c >>> 16 & 255, b >>> 8 & 255, a & 255) ^ unkeys[k + 3];
                a = e;
                b = f;
                c = g;
            }
            putWord(to, into, unboxed(a, d, c, b) ^ unkeys[0]);
            putWord(to, into + 4, unboxed(b, a, d, c) ^ unkeys[1]);
            putWord(to, into + 8, unboxed(c, b, a, d) ^ unkeys[2]);
            putWord(to, into + 12, unboxed(d, c, b, a) ^ unkeys[3]);
        }

        private static long moved(long v, int bits, char[] places) {
            long r = 0;
            for (int i = 0; i < places.length; i++) {
                r = r << 1 | v >>> (bits - places[i]) & 1;
            }
            return r;
        }

        /** The sixteen round keys of one of the up to three DES keys, eight times six bits each. */
        private void lockDes(int which, int[] key, int at) {
            long chosen = moved((long) word(key, at) << 32 | word(key, at + 4) & LOW, 64, CHOICE);
            int c = (int) (chosen >>> 28);
            int d = (int) chosen & 0xfffffff;
            for (int i = 0; i < 16; i++) {
                int turn = i < 2 || i == 8 || i == 15 ? 1 : 2;
                c = (c << turn | c >>> (28 - turn)) & 0xfffffff;
                d = (d << turn | d >>> (28 - turn)) & 0xfffffff;
                long picked = moved((long) c << 28 | d, 56, PICKED);
                for (int k = 0; k < 8; k++) {
                    desKeys[128 * which + 8 * i + k] = (int) (picked >>> (42 - 6 * k)) & 63;
                }
            }
        }

        private long des(long v, int which, boolean back) {
            int l = (int) (v >>> 32);
            int r = (int) v;
            for (int i = 0; i < 16; i++) {
                int k = 128 * which + 8 * (back ? 15 - i : i);
                int turned = r >>> 1 | r << 31;
                int f = 0;
                for (int j = 0; j < 8; j++) {
                    f ^= sets[64 * j + (turned >>> 26 ^ desKeys[k + j])];
                    turned = turned << 4 | turned >>> 28;
                }
                int t = l ^ f;
                l = r;
                r = t;
            }
            return (long) r << 32 | l & LOW;
        }

        private void desBlock(boolean back, int[] from, int at, int[] to, int into) {
            long v = moved((long) word(from, at) << 32 | word(from, at + 4) & LOW, 64, FIRST);
            if (kind == DES) {
                v = des(v, 0, back);
            } else if (back) {
                v = des(des(des(v, 2, true), 1, false), 0, true);
            } else {
                v = des(des(des(v, 0, false), 1, true), 2, false);
            }
            v = moved(v, 64, LAST);
            putWord(to, into, (int) (v >>> 32));
            putWord(to, into + 4, (int) v);
        }

        private void there(int[] from, int at, int[] to, int into) {
            if (kind == AES) {
                aesThere(from, at, to, into);
            } else {
                desBlock(false, from, at, to, into);
            }
        }

        private void back(int[] from, int at, int[] to, int into) {
            if (kind == AES) {
                aesBack(from, at, to, into);
            } else {
                desBlock(true, from, at, to, into);
            }
        }

        private boolean lockBlock(int b, Row key) {
            if (b == AES) {
                if (!isAesKey(key.n)) {
                    return false;
                }
                lockAes(key.b, 0, key.n);
                return true;
            }
            if (b == DES ? key.n != 8 : key.n != 16 && key.n != 24) {
                return false;
            }
            kind = b;
            size = 8;
            lockDes(0, key.b, 0);
            if (b != DES) {
                lockDes(1, key.b, 8);
                lockDes(2, key.b, key.n == 24 ? 16 : 0);
            }
            return true;
        }

        /** A mode of a block cipher; the two numbers are the cipher and the mode. */
        int inMode(int b, int mode, boolean back, Row key, Row iv, Row x, Row out) {
            if (mode == 5) {
                return b == AES ? xts(back, key, iv, x, out) : BAD;
            }
            if (!lockBlock(b, key) || iv.n != (mode == 0 ? 0 : size)) {
                return BAD;
            }
            boolean whole = mode <= 1 || mode == 6 && back;
            if (whole && x.n % size != 0 || mode == 6 && back && x.n == 0) {
                return BAD;
            }
            int rest = mode == 6 && !back ? size - x.n % size : 0;
            if (x.n + rest > MOST) {
                return LONG;
            }
            out.take(x);
            for (int i = 0; i < rest; i++) {
                out.push(rest);
            }
            System.arraycopy(iv.b, 0, chain, 0, iv.n);
            if (mode <= 1 || mode == 6) {
                blocks(mode, back, out);
            } else {
                flow(mode, back, out);
            }
            return mode == 6 && back ? unpad(out) : out.n;
        }

        private int unpad(Row out) {
            int rest = out.b[out.n - 1];
            if (rest < 1 || rest > size) {
                return WRONG;
            }
            for (int i = 1; i <= rest; i++) {
                if (out.b[out.n - i] != rest) {
                    return WRONG;
                }
            }
            out.n -= rest;
            return out.n;
        }

        private static void mix(int[] from, int at, int[] to, int into, int len) {
            for (int i = 0; i < len; i++) {
                to[into + i] ^= from[at + i];
            }
        }

        private void blocks(int mode, boolean back, Row out) {
            for (int at = 0; at + size <= out.n; at += size) {
                if (mode == 0) {
                    if (back) {
                        back(out.b, at, out.b, at);
                    } else {
                        there(out.b, at, out.b, at);
                    }
                } else if (back) {
                    System.arraycopy(out.b, at, spare, 0, size);
                    back(out.b, at, out.b, at);
                    mix(chain, 0, out.b, at, size);
                    System.arraycopy(spare, 0, chain, 0, size);
                } else {
                    mix(chain, 0, out.b, at, size);
                    there(out.b, at, out.b, at);
                    System.arraycopy(out.b, at, chain, 0, size);
                }
            }
        }

        private void flow(int mode, boolean back, Row out) {
            for (int at = 0; at < out.n; at += size) {
                int part = Math.min(size, out.n - at);
                there(chain, 0, spare, 0);
                if (mode == 2 && back && part == size) {
                    System.arraycopy(out.b, at, chain, 0, size);
                }
                mix(spare, 0, out.b, at, part);
                if (mode == 2 && !back && part == size) {
                    System.arraycopy(out.b, at, chain, 0, size);
                } else if (mode == 3) {
                    System.arraycopy(spare, 0, chain, 0, size);
                } else if (mode == 4) {
                    countUp(chain, size);
                }
            }
        }

        static void countUp(int[] counter, int size) {
            boolean carry = true;
            for (int i = size - 1; i >= 0 && carry; i--) {
                counter[i] = counter[i] + 1 & 255;
                carry = counter[i] == 0;
            }
        }

        /** CTR from a block on, over what is in out from a place on. */
        void counted(int[] start, Row out, int from) {
            System.arraycopy(start, 0, chain, 0, 16);
            for (int at = from; at < out.n; at += 16) {
                aesThere(chain, 0, spare, 0);
                mix(spare, 0, out.b, at, Math.min(16, out.n - at));
                countUp(chain, 16);
            }
        }

        private int xts(boolean back, Row key, Row iv, Row x, Row out) {
            int n = key.n / 2;
            boolean fits = (key.n == 32 || key.n == 64) && iv.n == 16 && x.n >= 16;
            if (!fits || key.same(key.b, n, 0, n)) {
                return BAD;
            }
            lockAes(key.b, n, n);
            aesThere(iv.b, 0, tweak, 0);
            lockAes(key.b, 0, n);
            out.take(x);
            int rest = x.n % 16;
            int whole = x.n - rest;
            int plain = rest == 0 ? whole : whole - 16;
            for (int at = 0; at < plain; at += 16) {
                tweaked(back, out.b, at);
                shiftTweak();
            }
            if (rest != 0) {
                steal(back, out.b, plain, rest);
            }
            return out.n;
        }

        private void tweaked(boolean back, int[] a, int at) {
            mix(tweak, 0, a, at, 16);
            if (back) {
                aesBack(a, at, a, at);
            } else {
                aesThere(a, at, a, at);
            }
            mix(tweak, 0, a, at, 16);
        }

        private void shiftTweak() {
            int carry = 0;
            for (int i = 0; i < 16; i++) {
                int v = tweak[i] << 1 | carry;
                tweak[i] = v & 255;
                carry = v >> 8;
            }
            tweak[0] ^= carry != 0 ? 0x87 : 0;
        }

        /** The last whole block and the part behind it; back, their two tweaks change places. */
        private void steal(boolean back, int[] a, int at, int rest) {
            System.arraycopy(tweak, 0, half, 0, 16);
            if (back) {
                shiftTweak();
            }
            tweaked(back, a, at);
            for (int i = 0; i < rest; i++) {
                int t = a[at + i];
                a[at + i] = a[at + 16 + i];
                a[at + 16 + i] = t;
            }
            if (back) {
                System.arraycopy(half, 0, tweak, 0, 16);
            } else {
                shiftTweak();
            }
            tweaked(back, a, at);
        }

        /** CMAC of the first bytes of an array, with the key that is locked in. */
        void cmac(int[] message, int len, int[] to, int into) {
            Arrays.fill(chain, 0);
            int last = len == 0 ? 0 : (len - 1) / 16 * 16;
            for (int at = 0; at < last; at += 16) {
                mix(message, at, chain, 0, 16);
                aesThere(chain, 0, chain, 0);
            }
            Arrays.fill(spare, 0);
            aesThere(spare, 0, spare, 0);
            doubled(spare);
            if (len - last < 16) {
                doubled(spare);
                chain[len - last] ^= 128;
            }
            mix(message, last, chain, 0, len - last);
            mix(spare, 0, chain, 0, 16);
            aesThere(chain, 0, to, into);
        }

        /** A block as a polynomial times x, as CMAC and SIV take it. */
        static void doubled(int[] a) {
            int high = a[0] >> 7;
            for (int i = 0; i < 15; i++) {
                a[i] = (a[i] << 1 | a[i + 1] >> 7) & 255;
            }
            a[15] = (a[15] << 1 & 255) ^ (high != 0 ? 0x87 : 0);
        }
    }

    /** Sealed forms, CHACHA20, POLY1305, wraps and FF1. */
    private static final class Sealed {
        private static final long LIMB = 0x3ffffff;

        private final Cipher cipher = new Cipher();
        private final int[] counter = new int[16];
        private final int[] mask = new int[16];
        private final int[] tag = new int[16];
        private final int[] hashed = new int[16];
        private final int[] oneTime = new int[64];
        private final int[] state = new int[16];
        private final int[] start = new int[16];
        private final long[] poly = new long[5];
        private final long[] times = new long[5];
        private final long[] limbs = new long[5];
        private final Row text = new Row(MOST + 64);
        private final int[] left = new int[24];
        private final int[] right = new int[24];
        private final int[] sum = new int[24];
        private final int[] value = new int[64];
        private long h0;
        private long h1;
        private long y0;
        private long y1;

        int cmac(Row key, Row x, Row out) {
            if (!Cipher.isAesKey(key.n)) {
                return BAD;
            }
            cipher.lockAes(key.b, 0, key.n);
            cipher.cmac(x.b, x.n, out.b, 0);
            out.n = 16;
            return 16;
        }

        int inMode(int b, int mode, boolean back, Row key, Row iv, Row x, Row out) {
            return cipher.inMode(b, mode, back, key, iv, x, out);
        }

        private static boolean keyFits(int kind, int key, int nonce) {
            switch (kind) {
                case 0:
                    return Cipher.isAesKey(key) && nonce >= 1;
                case 1:
                    return Cipher.isAesKey(key) && nonce >= 7 && nonce <= 13;
                case 2:
                    return key == 32 || key == 48 || key == 64;
                case 3:
                    return (key == 16 || key == 32) && nonce == 12;
                default:
                    return key == 32 && nonce == 12;
            }
        }

        /** One of the five sealed forms, there or back. */
        int inForm(int kind, boolean back, Row key, Row nonce, Row ad, Row x, Row out) {
            if (!keyFits(kind, key.n, nonce.n) || back && x.n < 16) {
                return BAD;
            }
            if (!back && x.n + 16 > MOST) {
                return LONG;
            }
            int from = back && kind == 2 ? 16 : 0;
            int len = back ? x.n - 16 : x.n;
            out.clear();
            out.add(x.b, from, len);
            switch (kind) {
                case 0:
                    gcm(back, key, nonce, ad, out);
                    break;
                case 1:
                    ccm(back, key, nonce, ad, out);
                    break;
                case 2:
                    siv(back, key, nonce, ad, x, out);
                    break;
                case 3:
                    gcmSiv(back, key, nonce, ad, x, out);
                    break;
                default:
                    chachaPoly(back, key, nonce, ad, out);
                    break;
            }
            if (back) {
                return x.same(tag, 0, kind == 2 ? 0 : len, 16) ? out.n : WRONG;
            }
            if (kind == 2) {
                text.take(out);
                out.clear();
                out.add(tag, 0, 16);
                out.add(text.b, 0, len);
            } else {
                out.add(tag, 0, 16);
            }
            return out.n;
        }

        private static long eight(int[] a, int at) {
            long v = 0;
            for (int i = 0; i < 8; i++) {
                v = v << 8 | a[at + i];
            }
            return v;
        }

        private static void putEight(long v, int[] a, int at) {
            for (int i = 0; i < 8; i++) {
                a[at + i] = (int) (v >>> (56 - 8 * i)) & 255;
            }
        }

        private void ghashBlock(long high, long low) {
            long a = y0 ^ high;
            long b = y1 ^ low;
            long v = h0;
            long w = h1;
            long z0 = 0;
            long z1 = 0;
            for (int i = 0; i < 128; i++) {
                long take = a >> 63;
                z0 ^= v & take;
                z1 ^= w & take;
                long odd = -(w & 1);
                w = w >>> 1 | v << 63;
                v = v >>> 1 ^ odd & 0xe1L << 56;
                a = a << 1 | b >>> 63;
                b <<= 1;
            }
            y0 = z0;
            y1 = z1;
        }

        /** The last block is filled up with 0s; POLYVAL is GHASH with the bytes of each block turned round. */
        private void ghash(int[] a, int len, boolean turned) {
            for (int at = 0; at < len; at += 16) {
                Arrays.fill(hashed, 0);
                int part = Math.min(16, len - at);
                for (int i = 0; i < part; i++) {
                    hashed[turned ? 15 - i : i] = a[at + i];
                }
                ghashBlock(eight(hashed, 0), eight(hashed, 8));
            }
        }

        /** CTR whose last four bytes count alone, the highest first. */
        private void gcmStream(Row out) {
            for (int at = 0; at < out.n; at += 16) {
                for (int i = 15, carry = 1; i >= 12; i--) {
                    carry += counter[i];
                    counter[i] = carry & 255;
                    carry >>= 8;
                }
                cipher.aesThere(counter, 0, mask, 0);
                int part = Math.min(16, out.n - at);
                for (int i = 0; i < part; i++) {
                    out.b[at + i] ^= mask[i];
                }
            }
        }

        private void gcm(boolean back, Row key, Row nonce, Row ad, Row out) {
            cipher.lockAes(key.b, 0, key.n);
            Arrays.fill(counter, 0);
            cipher.aesThere(counter, 0, mask, 0);
            h0 = eight(mask, 0);
            h1 = eight(mask, 8);
            y0 = 0;
            y1 = 0;
            if (nonce.n == 12) {
                System.arraycopy(nonce.b, 0, counter, 0, 12);
                counter[15] = 1;
            } else {
                ghash(nonce.b, nonce.n, false);
                ghashBlock(0, 8L * nonce.n);
                putEight(y0, counter, 0);
                putEight(y1, counter, 8);
            }
            cipher.aesThere(counter, 0, tag, 0);
            long first = eight(tag, 0);
            long second = eight(tag, 8);
            int len = out.n;
            if (!back) {
                gcmStream(out);
            }
            y0 = 0;
            y1 = 0;
            ghash(ad.b, ad.n, false);
            ghash(out.b, len, false);
            ghashBlock(8L * ad.n, 8L * len);
            putEight(y0 ^ first, tag, 0);
            putEight(y1 ^ second, tag, 8);
            if (back) {
                gcmStream(out);
            }
        }

        private void ccm(boolean back, Row key, Row nonce, Row ad, Row out) {
            cipher.lockAes(key.b, 0, key.n);
            Arrays.fill(counter, 0);
            counter[0] = 14 - nonce.n;
            System.arraycopy(nonce.b, 0, counter, 1, nonce.n);
            cipher.aesThere(counter, 0, start, 0);
            counter[15] = 1;
            if (back) {
                cipher.counted(counter, out, 0);
            }
            Arrays.fill(tag, 0);
            tag[0] = (ad.n > 0 ? 64 : 0) + 56 + 14 - nonce.n;
            System.arraycopy(nonce.b, 0, tag, 1, nonce.n);
            tag[14] |= out.n >> 8;
            tag[15] |= out.n & 255;
            cipher.aesThere(tag, 0, tag, 0);
            if (ad.n > 0) {
                text.clear();
                text.number(ad.n, 2);
                text.add(ad.b, 0, ad.n);
                chained(text.b, text.n);
            }
            chained(out.b, out.n);
            for (int i = 0; i < 16; i++) {
                tag[i] ^= start[i];
            }
            if (!back) {
                cipher.counted(counter, out, 0);
            }
        }

        private void chained(int[] a, int len) {
            for (int at = 0; at < len; at += 16) {
                int part = Math.min(16, len - at);
                for (int i = 0; i < part; i++) {
                    tag[i] ^= a[at + i];
                }
                cipher.aesThere(tag, 0, tag, 0);
            }
        }

        private void siv(boolean back, Row key, Row nonce, Row ad, Row x, Row out) {
            int n = key.n / 2;
            System.arraycopy(back ? x.b : tag, 0, tag, 0, 16);
            if (!back) {
                syntheticTag(key, nonce, ad, out);
            }
            System.arraycopy(tag, 0, counter, 0, 16);
            counter[8] &= 127;
            counter[12] &= 127;
            cipher.lockAes(key.b, n, n);
            cipher.counted(counter, out, 0);
            if (back) {
                syntheticTag(key, nonce, ad, out);
            }
        }

        /** S2V of the associated bytes, the nonce and the text. */
        private void syntheticTag(Row key, Row nonce, Row ad, Row plain) {
            cipher.lockAes(key.b, 0, key.n / 2);
            Arrays.fill(hashed, 0);
            cipher.cmac(hashed, 16, hashed, 0);
            Cipher.doubled(hashed);
            cipher.cmac(ad.b, ad.n, mask, 0);
            for (int i = 0; i < 16; i++) {
                hashed[i] ^= mask[i];
            }
            Cipher.doubled(hashed);
            cipher.cmac(nonce.b, nonce.n, mask, 0);
            for (int i = 0; i < 16; i++) {
                hashed[i] ^= mask[i];
            }
            text.take(plain);
            if (plain.n < 16) {
                Cipher.doubled(hashed);
                text.push(128);
                for (int i = text.n; i < 16; i++) {
                    text.push(0);
                }
            }
            for (int i = 0; i < 16; i++) {
                text.b[text.n - 16 + i] ^= hashed[i];
            }
            cipher.cmac(text.b, text.n, tag, 0);
        }

        private void gcmSiv(boolean back, Row key, Row nonce, Row ad, Row x, Row out) {
            cipher.lockAes(key.b, 0, key.n);
            int blocks = key.n == 16 ? 4 : 6;
            for (int i = 0; i < blocks; i++) {
                Arrays.fill(counter, 0);
                counter[0] = i;
                System.arraycopy(nonce.b, 0, counter, 4, 12);
                cipher.aesThere(counter, 0, mask, 0);
                System.arraycopy(mask, 0, oneTime, 8 * i, 8);
            }
            for (int i = 0; i < 16; i++) {
                mask[15 - i] = oneTime[i];
            }
            h0 = eight(mask, 0);
            h1 = eight(mask, 8);
            // POLYVAL's key is GHASH's key times x.
            long odd = -(h1 & 1);
            h1 = h1 >>> 1 | h0 << 63;
            h0 = h0 >>> 1 ^ odd & 0xe1L << 56;
            cipher.lockAes(oneTime, 16, key.n);
            if (back) {
                System.arraycopy(x.b, x.n - 16, tag, 0, 16);
                littleStream(out);
            }
            y0 = 0;
            y1 = 0;
            ghash(ad.b, ad.n, true);
            ghash(out.b, out.n, true);
            ghashBlock(8L * out.n, 8L * ad.n);
            putEight(y0, mask, 0);
            putEight(y1, mask, 8);
            for (int i = 0; i < 16; i++) {
                tag[i] = mask[15 - i] ^ (i < 12 ? nonce.b[i] : 0);
            }
            tag[15] &= 127;
            cipher.aesThere(tag, 0, tag, 0);
            if (!back) {
                littleStream(out);
            }
        }

        /** CTR from the tag on, whose first four bytes count, the lowest first. */
        private void littleStream(Row out) {
            System.arraycopy(tag, 0, counter, 0, 16);
            counter[15] |= 128;
            for (int at = 0; at < out.n; at += 16) {
                cipher.aesThere(counter, 0, mask, 0);
                int part = Math.min(16, out.n - at);
                for (int i = 0; i < part; i++) {
                    out.b[at + i] ^= mask[i];
                }
                for (int i = 0, carry = 1; i < 4; i++) {
                    carry += counter[i];
                    counter[i] = carry & 255;
                    carry >>= 8;
                }
            }
        }

        private static int little(int[] a, int at) {
            return a[at] | a[at + 1] << 8 | a[at + 2] << 16 | a[at + 3] << 24;
        }

        /** 64 bytes of CHACHA20's stream. */
        private void chachaBlock(Row key, Row nonce, int count) {
            start[0] = 0x61707865;
            start[1] = 0x3320646e;
            start[2] = 0x79622d32;
            start[3] = 0x6b206574;
            for (int i = 0; i < 8; i++) {
                start[4 + i] = little(key.b, 4 * i);
            }
            start[12] = count;
            for (int i = 0; i < 3; i++) {
                start[13 + i] = little(nonce.b, 4 * i);
            }
            System.arraycopy(start, 0, state, 0, 16);
            for (int i = 0; i < 10; i++) {
                for (int k = 0; k < 4; k++) {
                    quarter(state, k, k + 4, k + 8, k + 12);
                }
                for (int k = 0; k < 4; k++) {
                    quarter(state, k, 4 + (k + 1) % 4, 8 + (k + 2) % 4, 12 + (k + 3) % 4);
                }
            }
            for (int i = 0; i < 64; i++) {
                oneTime[i] = state[i >> 2] + start[i >> 2] >>> (8 * (i & 3)) & 255;
            }
        }

        private static void quarter(int[] s, int a, int b, int c, int d) {
            s[a] += s[b];
            int t = s[d] ^ s[a];
            s[d] = t << 16 | t >>> 16;
            s[c] += s[d];
            t = s[b] ^ s[c];
            s[b] = t << 12 | t >>> 20;
            s[a] += s[b];
            t = s[d] ^ s[a];
            s[d] = t << 8 | t >>> 24;
            s[c] += s[d];
            t = s[b] ^ s[c];
            s[b] = t << 7 | t >>> 25;
        }

        private void chacha(Row key, Row nonce, int first, Row out) {
            int count = first;
            for (int at = 0; at < out.n; at += 64) {
                chachaBlock(key, nonce, count);
                int part = Math.min(64, out.n - at);
                for (int i = 0; i < part; i++) {
                    out.b[at + i] ^= oneTime[i];
                }
                count++;
            }
        }

        int streamed(Row key, Row nonce, int first, Row x, Row out) {
            if (key.n != 32 || nonce.n != 12) {
                return BAD;
            }
            out.take(x);
            chacha(key, nonce, first, out);
            return out.n;
        }

        private void chachaPoly(boolean back, Row key, Row nonce, Row ad, Row out) {
            if (!back) {
                chacha(key, nonce, 1, out);
            }
            chachaBlock(key, nonce, 0);
            polyStart(oneTime);
            polyEat(ad.b, ad.n, true);
            polyEat(out.b, out.n, true);
            for (int i = 0; i < 8; i++) {
                mask[i] = i < 4 ? ad.n >>> (8 * i) & 255 : 0;
                mask[8 + i] = i < 4 ? out.n >>> (8 * i) & 255 : 0;
            }
            polyEat(mask, 16, true);
            polyEnd(oneTime, tag);
            if (back) {
                chacha(key, nonce, 1, out);
            }
        }

        int poly1305(Row key, Row x, Row out) {
            if (key.n != 32) {
                return BAD;
            }
            polyStart(key.b);
            polyEat(x.b, x.n, false);
            polyEnd(key.b, out.b);
            out.n = 16;
            return 16;
        }

        private static void toLimbs(int[] a, int top, long[] to) {
            long w0 = little(a, 0) & LOW;
            long w1 = little(a, 4) & LOW;
            long w2 = little(a, 8) & LOW;
            long w3 = little(a, 12) & LOW;
            to[0] = w0 & LIMB;
            to[1] = (w0 >>> 26 | w1 << 6) & LIMB;
            to[2] = (w1 >>> 20 | w2 << 12) & LIMB;
            to[3] = (w2 >>> 14 | w3 << 18) & LIMB;
            to[4] = w3 >>> 8 | (long) top << 24;
        }

        private void polyStart(int[] key) {
            for (int i = 0; i < 16; i++) {
                hashed[i] = key[i] & (i % 4 == 3 ? 15 : i % 4 == 0 && i > 0 ? 252 : 255);
            }
            toLimbs(hashed, 0, times);
            Arrays.fill(poly, 0);
        }

        /** The last block is filled up with 0s where told, else cut, with a 1 behind its bytes. */
        private void polyEat(int[] a, int len, boolean filled) {
            for (int at = 0; at < len; at += 16) {
                int part = Math.min(16, len - at);
                Arrays.fill(hashed, 0);
                System.arraycopy(a, at, hashed, 0, part);
                int top = 1;
                if (part < 16 && !filled) {
                    hashed[part] = 1;
                    top = 0;
                }
                polyBlock(top);
            }
        }

        private void polyBlock(int top) {
            long r0 = times[0];
            long r1 = times[1];
            long r2 = times[2];
            long r3 = times[3];
            long r4 = times[4];
            toLimbs(hashed, top, limbs);
            long a0 = poly[0] + limbs[0];
            long a1 = poly[1] + limbs[1];
            long a2 = poly[2] + limbs[2];
            long a3 = poly[3] + limbs[3];
            long a4 = poly[4] + limbs[4];
            long p0 = a0 * r0 + 5 * (a1 * r4 + a2 * r3 + a3 * r2 + a4 * r1);
            long p1 = a0 * r1 + a1 * r0 + 5 * (a2 * r4 + a3 * r3 + a4 * r2);
            long p2 = a0 * r2 + a1 * r1 + a2 * r0 + 5 * (a3 * r4 + a4 * r3);
            long p3 = a0 * r3 + a1 * r2 + a2 * r1 + a3 * r0 + 5 * (a4 * r4);
            long p4 = a0 * r4 + a1 * r3 + a2 * r2 + a3 * r1 + a4 * r0;
            p1 += p0 >>> 26;
            p2 += p1 >>> 26;
            p3 += p2 >>> 26;
            p4 += p3 >>> 26;
            p0 = (p0 & LIMB) + 5 * (p4 >>> 26);
            poly[0] = p0 & LIMB;
            poly[1] = (p1 & LIMB) + (p0 >>> 26);
            poly[2] = p2 & LIMB;
            poly[3] = p3 & LIMB;
            poly[4] = p4 & LIMB;
        }

        private void polyEnd(int[] key, int[] to) {
            for (int pass = 0; pass < 2; pass++) {
                long carry = 0;
                for (int i = 0; i < 5; i++) {
                    carry += poly[i];
                    poly[i] = carry & LIMB;
                    carry >>>= 26;
                }
                poly[0] += 5 * carry;
            }
            // Whether the number is 2^130 - 5 or more shows in the carry of the number and 5.
            long carry = 5;
            for (int i = 0; i < 5; i++) {
                carry = carry + poly[i] >>> 26;
            }
            carry *= 5;
            for (int i = 0; i < 5; i++) {
                carry += poly[i];
                poly[i] = carry & LIMB;
                carry >>>= 26;
            }
            long low = poly[0] | poly[1] << 26 | poly[2] << 52;
            long high = poly[2] >>> 12 | poly[3] << 14 | poly[4] << 40;
            int over = 0;
            for (int i = 0; i < 16; i++) {
                long part = i < 8 ? low >>> (8 * i) : high >>> (8 * (i - 8));
                over += ((int) part & 255) + key[16 + i];
                to[i] = over & 255;
                over >>= 8;
            }
        }

        /** A wrap with AES, plain or padded, there or back. */
        int wrapped(boolean padded, boolean back, Row key, Row x, Row out) {
            if (!Cipher.isAesKey(key.n)) {
                return BAD;
            }
            int least = padded ? back ? 16 : 1 : back ? 24 : 16;
            boolean eights = padded && !back || x.n % 8 == 0;
            if (x.n < least || !eights) {
                return BAD;
            }
            int whole = (x.n + 7) / 8 * 8;
            if (!back && whole + 8 > MOST) {
                return LONG;
            }
            cipher.lockAes(key.b, 0, key.n);
            if (back) {
                return unwrap(padded, x, out);
            }
            out.zeros(whole + 8);
            System.arraycopy(x.b, 0, out.b, 8, x.n);
            Arrays.fill(out.b, 0, 8, 0xa6);
            if (padded) {
                putEight(0xa65959a600000000L | x.n, out.b, 0);
            }
            if (whole == 8) {
                cipher.aesThere(out.b, 0, out.b, 0);
            } else {
                wrapRounds(out, whole / 8);
            }
            return out.n;
        }

        private void wrapRounds(Row out, int n) {
            System.arraycopy(out.b, 0, state, 0, 8);
            long t = 0;
            for (int j = 0; j < 6; j++) {
                for (int i = 1; i <= n; i++) {
                    t++;
                    System.arraycopy(out.b, 8 * i, state, 8, 8);
                    cipher.aesThere(state, 0, state, 0);
                    System.arraycopy(state, 8, out.b, 8 * i, 8);
                    putEight(eight(state, 0) ^ t, state, 0);
                }
            }
            System.arraycopy(state, 0, out.b, 0, 8);
        }

        private int unwrap(boolean padded, Row x, Row out) {
            int n = x.n / 8 - 1;
            out.clear();
            if (n == 1) {
                cipher.aesBack(x.b, 0, state, 0);
                out.add(state, 8, 8);
            } else {
                unwrapRounds(x, n, out);
            }
            long first = eight(state, 0);
            if (!padded) {
                return first == 0xa6a6a6a6a6a6a6a6L ? out.n : WRONG;
            }
            int size = (int) first;
            if (first >>> 32 != 0xa65959a6L || size <= 8 * (n - 1) || size > 8 * n) {
                return WRONG;
            }
            for (int i = size; i < 8 * n; i++) {
                if (out.b[i] != 0) {
                    return WRONG;
                }
            }
            out.n = size;
            return size;
        }

        private void unwrapRounds(Row x, int n, Row out) {
            out.add(x.b, 8, 8 * n);
            System.arraycopy(x.b, 0, state, 0, 8);
            long t = 6L * n;
            for (int j = 0; j < 6; j++) {
                for (int i = n; i >= 1; i--) {
                    putEight(eight(state, 0) ^ t, state, 0);
                    System.arraycopy(out.b, 8 * i - 8, state, 8, 8);
                    cipher.aesBack(state, 0, state, 0);
                    System.arraycopy(state, 8, out.b, 8 * i - 8, 8);
                    t--;
                }
            }
        }

        private static boolean digitsFit(int radix, Row x) {
            if (radix < 2 || radix > 256 || x.n < 2 || x.n > 48) {
                return false;
            }
            long many = 1;
            for (int i = 0; i < x.n; i++) {
                if (x.b[i] >= radix) {
                    return false;
                }
                many = Math.min(many * radix, 1000000);
            }
            return many >= 1000000;
        }

        /** The digits as a number in so many bytes, the highest first, at the start of value. */
        private void digitsToBytes(int radix, int[] digits, int n, int bytes) {
            Arrays.fill(value, 0, bytes, 0);
            for (int i = 0; i < n; i++) {
                int carry = digits[i];
                for (int k = bytes - 1; k >= 0; k--) {
                    carry += value[k] * radix;
                    value[k] = carry & 255;
                    carry >>= 8;
                }
            }
        }

        /** FF1; left holds the digits A, right the digits B. */
        int digits(int radix, boolean back, Row key, Row tweak, Row x, Row out) {
            if (!Cipher.isAesKey(key.n) || tweak.n > 64 || !digitsFit(radix, x)) {
                return BAD;
            }
            cipher.lockAes(key.b, 0, key.n);
            int u = x.n / 2;
            int v = x.n - u;
            int bytes = bytesOfHalf(radix, v);
            System.arraycopy(x.b, 0, left, 0, u);
            System.arraycopy(x.b, u, right, 0, v);
            fixedText(radix, x.n, bytes, tweak);
            int fixedSize = text.n;
            int[] fixed = back ? left : right;
            int[] changed = back ? right : left;
            for (int i = 0; i < 10; i++) {
                int round = back ? 9 - i : i;
                int m = round % 2 == 0 ? u : v;
                digitsToBytes(radix, fixed, x.n - m, bytes);
                text.n = fixedSize;
                text.push(round);
                text.add(value, 0, bytes);
                roundBytes();
                addDigits(radix, back, changed, m, (bytes + 3) / 4 * 4 + 4);
                System.arraycopy(fixed, 0, changed, 0, x.n - m);
                System.arraycopy(sum, 0, fixed, 0, m);
            }
            out.clear();
            out.add(left, 0, u);
            out.add(right, 0, v);
            return out.n;
        }

        /** How many bytes hold every number of v digits. */
        private int bytesOfHalf(int radix, int v) {
            Arrays.fill(sum, radix - 1);
            digitsToBytes(radix, sum, v, 24);
            int zeros = 0;
            for (int i = 0; i < 24 && value[i] == 0; i++) {
                zeros++;
            }
            return 24 - zeros;
        }

        /** What each round's text begins with. */
        private void fixedText(int radix, int n, int bytes, Row tweak) {
            text.clear();
            text.push(1);
            text.push(2);
            text.push(1);
            text.number(radix, 3);
            text.push(10);
            text.push(n / 2);
            text.number(n, 4);
            text.number(tweak.n, 4);
            text.add(tweak.b, 0, tweak.n);
            int zeros = 15 - (tweak.n + bytes) % 16;
            for (int i = 0; i < zeros; i++) {
                text.push(0);
            }
        }

        /** The round's block and the one that follows from it, at the start of value. */
        private void roundBytes() {
            Arrays.fill(tag, 0);
            chained(text.b, text.n);
            System.arraycopy(tag, 0, value, 0, 16);
            tag[15] ^= 1;
            cipher.aesThere(tag, 0, value, 16);
        }

        /** The digits and the number in value, added or taken away, as m digits in sum. */
        private void addDigits(int radix, boolean back, int[] digits, int m, int bytes) {
            int carry = 0;
            for (int k = m - 1; k >= 0; k--) {
                int rest = 0;
                for (int i = 0; i < bytes; i++) {
                    rest = rest << 8 | value[i];
                    value[i] = rest / radix;
                    rest %= radix;
                }
                int d = back ? digits[k] - rest - carry : digits[k] + rest + carry;
                carry = d < 0 || d >= radix ? 1 : 0;
                sum[k] = d < 0 ? d + radix : d >= radix ? d - radix : d;
            }
        }
    }

    /** Wide numbers in limbs of 28 bits, the lowest first, and counting modulo one of them. */
    private static final class Ring {
        private static final int BITS = 28;
        private static final long LIMB = 0xfffffff;

        /** How many limbs and bits the modulus has. */
        int n;
        int bits;
        final long[] m;
        /** One, as mul takes it. */
        final long[] one;
        /** The modulus less 2: the power that inverts, where the modulus is a prime. */
        final long[] inverting;
        private final long[] square;
        private final long[] wide;
        private final long[] held;
        private long spur;
        private boolean odd;

        Ring(int limbs) {
            m = new long[limbs];
            one = new long[limbs];
            square = new long[limbs];
            inverting = new long[limbs];
            held = new long[limbs];
            wide = new long[2 * limbs + 2];
        }

        static long digit(char c) {
            return c <= '9' ? c - '0' : c - 'a' + 10;
        }

        static void hex(String s, long[] to) {
            Arrays.fill(to, 0);
            for (int i = 0; i < s.length(); i++) {
                int bit = 4 * (s.length() - 1 - i);
                to[bit / BITS] |= digit(s.charAt(i)) << bit % BITS;
            }
        }

        /** A number from bytes, the highest first. */
        static void load(int[] from, int at, int len, long[] to) {
            Arrays.fill(to, 0);
            long held = 0;
            int have = 0;
            int limb = 0;
            for (int i = len - 1; i >= 0; i--) {
                held |= (long) from[at + i] << have;
                have += 8;
                if (have >= BITS && limb < to.length) {
                    to[limb] = held & LIMB;
                    limb++;
                    held >>>= BITS;
                    have -= BITS;
                }
            }
            if (limb < to.length) {
                to[limb] = held;
            }
        }

        static void loadLittle(int[] from, int at, int len, long[] to) {
            Arrays.fill(to, 0);
            for (int i = 0; i < len; i++) {
                int bit = 8 * i;
                int k = bit / BITS;
                long v = (long) from[at + i] << bit % BITS;
                if (k < to.length) {
                    to[k] |= v & LIMB;
                }
                if (k + 1 < to.length) {
                    to[k + 1] |= v >>> BITS;
                }
            }
        }

        static int byteOf(long[] a, int i) {
            int k = 8 * i / BITS;
            int shift = 8 * i % BITS;
            long v = k < a.length ? a[k] >>> shift : 0;
            if (shift > BITS - 8 && k + 1 < a.length) {
                v |= a[k + 1] << (BITS - shift);
            }
            return (int) v & 255;
        }

        /** The lowest bytes of a number, the highest of them first. */
        static void store(long[] a, int[] to, int at, int len) {
            for (int i = 0; i < len; i++) {
                to[at + len - 1 - i] = byteOf(a, i);
            }
        }

        static void storeLittle(long[] a, int[] to, int at, int len) {
            for (int i = 0; i < len; i++) {
                to[at + i] = byteOf(a, i);
            }
        }

        static int compared(long[] a, long[] b, int n) {
            for (int i = n - 1; i >= 0; i--) {
                if (a[i] != b[i]) {
                    return a[i] < b[i] ? -1 : 1;
                }
            }
            return 0;
        }

        static boolean isZero(long[] a, int n) {
            long all = 0;
            for (int i = 0; i < n; i++) {
                all |= a[i];
            }
            return all == 0;
        }

        static boolean isSmall(long[] a, int n, long v) {
            return n > 0 && a[0] == v && isTopZero(a, n);
        }

        private static boolean isTopZero(long[] a, int n) {
            long all = 0;
            for (int i = 1; i < n; i++) {
                all |= a[i];
            }
            return all == 0;
        }

        static int limbsOf(long[] a, int most) {
            int n = most;
            for (int i = most - 1; i >= 0 && a[i] == 0; i--) {
                n = i;
            }
            return n;
        }

        static int bitsOf(long[] a, int most) {
            int top = most;
            for (int i = most - 1; i >= 0 && a[i] == 0; i--) {
                top = i;
            }
            int bits = BITS * top;
            for (int i = BITS - 1; i >= 0 && top > 0 && a[top - 1] >>> i == 0; i--) {
                bits--;
            }
            return bits;
        }

        static boolean bit(long[] a, int i) {
            return (a[i / BITS] >>> i % BITS & 1) != 0;
        }

        /** Answers the carry; the sum has as many limbs. */
        static long added(long[] a, long[] b, long[] to, int n) {
            long carry = 0;
            for (int i = 0; i < n; i++) {
                carry += a[i] + b[i];
                to[i] = carry & LIMB;
                carry >>= BITS;
            }
            return carry;
        }

        /** Answers 0, or -1 when b is greater. */
        static long less(long[] a, long[] b, long[] to, int n) {
            long carry = 0;
            for (int i = 0; i < n; i++) {
                carry += a[i] - b[i];
                to[i] = carry & LIMB;
                carry >>= BITS;
            }
            return carry;
        }

        static void addSmall(long[] a, long v, int n) {
            long carry = v;
            for (int i = 0; i < n; i++) {
                carry += a[i];
                a[i] = carry & LIMB;
                carry >>= BITS;
            }
        }

        static long restBySmall(long[] a, int n, long v) {
            long rest = 0;
            for (int i = n - 1; i >= 0; i--) {
                rest = (rest << BITS | a[i]) % v;
            }
            return rest;
        }

        static void half(long[] a, int n) {
            for (int i = 0; i < n; i++) {
                a[i] = (a[i] >>> 1 | (i + 1 < n ? a[i + 1] << BITS - 1 : 0)) & LIMB;
            }
        }

        /** The whole product, of twice n limbs, which to must hold besides. */
        static void product(long[] a, long[] b, int n, long[] to) {
            long sum = 0;
            for (int k = 0; k < n; k++) {
                for (int i = 0, j = k; j >= 0; i++, j--) {
                    sum += a[i] * b[j];
                }
                to[k] = sum & LIMB;
                sum >>>= BITS;
            }
            for (int k = n; k < 2 * n - 1; k++) {
                for (int i = k - n + 1, j = n - 1; i < n; i++, j--) {
                    sum += a[i] * b[j];
                }
                to[k] = sum & LIMB;
                sum >>>= BITS;
            }
            to[2 * n - 1] = sum;
        }

        private static void squared(long[] a, int n, long[] to) {
            long sum = 0;
            for (int k = 0; k < 2 * n - 1; k++) {
                long twice = 0;
                for (int i = k < n ? 0 : k - n + 1, j = k - i; i < j; i++, j--) {
                    twice += a[i] * a[j];
                }
                sum += twice << 1;
                if ((k & 1) == 0) {
                    sum += a[k >> 1] * a[k >> 1];
                }
                to[k] = sum & LIMB;
                sum >>>= BITS;
            }
            to[2 * n - 1] = sum;
        }

        /**
         * Knuth's division: u, of so many limbs and a free one above, becomes the rest; q, if there is one, what
         * comes. The leading digits are shifted as they are looked at, so that the rows need not be.
         */
        static void divide(long[] u, int un, long[] v, int vn, long[] q) {
            if (vn < 1 || v[vn - 1] <= 0) {
                return;
            }
            int s = 0;
            for (int i = 0; i < BITS && v[vn - 1] << s <= LIMB >> 1; i++) {
                s++;
            }
            long next = vn > 1 ? v[vn - 2] : 0;
            long first = v[vn - 1] << s | next >>> BITS - s;
            long second = (next << s | (vn > 2 ? v[vn - 3] : 0) >>> BITS - s) & LIMB;
            u[un] = 0;
            for (int j = un - vn; j >= 0 && first > 0; j--) {
                int k = j + vn;
                long a = u[k - 1];
                long b = k > 1 ? u[k - 2] : 0;
                long third = (b << s | (k > 2 ? u[k - 3] : 0) >>> BITS - s) & LIMB;
                long top = u[k] << BITS + s | a << s | b >>> BITS - s;
                long guess = top / first;
                long rest = top % first;
                for (int i = 0; i < 2 && rest <= LIMB && guess * second > (rest << BITS | third); i++) {
                    guess--;
                    rest += first;
                }
                long carry = 0;
                for (int i = 0; i < vn; i++) {
                    carry += u[j + i] - guess * v[i];
                    u[j + i] = carry & LIMB;
                    carry >>= BITS;
                }
                if (carry + u[k] < 0) {
                    guess--;
                    carry = 0;
                    for (int i = 0; i < vn; i++) {
                        carry += u[j + i] + v[i];
                        u[j + i] = carry & LIMB;
                        carry >>= BITS;
                    }
                }
                u[k] = 0;
                if (q != null) {
                    q[j] = guess;
                }
            }
        }

        /** Makes the ring ready for a modulus that is not 0. */
        void set(long[] modulus, int limbs) {
            n = limbsOf(modulus, limbs);
            bits = bitsOf(modulus, limbs);
            Arrays.fill(m, 0);
            System.arraycopy(modulus, 0, m, 0, n);
            odd = (m[0] & 1) != 0;
            long inverse = m[0];
            for (int i = 0; i < 5; i++) {
                inverse = inverse * (2 - m[0] * inverse) & LIMB;
            }
            spur = -inverse & LIMB;
            Arrays.fill(inverting, 0);
            System.arraycopy(m, 0, inverting, 0, n);
            addSmall(inverting, -2, n);
            limbPower(odd ? n : 0, one);
            limbPower(odd ? 2 * n : 0, square);
        }

        private void limbPower(int limb, long[] to) {
            Arrays.fill(wide, 0);
            wide[limb] = 1;
            rest(wide, limb + 1, to);
        }

        /** A number of so many limbs (one above is free), modulo m; it is used up. */
        void rest(long[] u, int un, long[] to) {
            divide(u, un, m, n, null);
            for (int i = 0; i < n; i++) {
                to[i] = i <= un ? u[i] : 0;
            }
        }

        /** The product of two numbers that have been entered. */
        void mul(long[] a, long[] b, long[] to) {
            if (a == b) {
                squared(a, n, wide);
            } else {
                product(a, b, n, wide);
            }
            if (odd) {
                shrink(to);
            } else {
                divide(wide, 2 * n, m, n, null);
                System.arraycopy(wide, 0, to, 0, n);
            }
        }

        /** Montgomery's reduction; sums of products fit a long with room to spare. */
        private void shrink(long[] to) {
            long[] t = wide;
            for (int i = 0; i < n; i++) {
                long u = t[i] * spur & LIMB;
                for (int j = 0, k = i; j < n; j++, k++) {
                    t[k] += u * m[j];
                }
                t[i + 1] += t[i] >>> BITS;
            }
            long over = 0;
            long under = 0;
            for (int i = 0; i < n; i++) {
                over += t[n + i];
                t[i] = over & LIMB;
                over >>>= BITS;
                under += t[i] - m[i];
                to[i] = under & LIMB;
                under >>= BITS;
            }
            // Below the modulus already: what was taken away comes back.
            for (int i = 0; i < n && over + under < 0; i++) {
                to[i] = t[i];
            }
        }

        /** From a plain number of n limbs to how mul takes it; it may be above the modulus. */
        void enter(long[] a, long[] to) {
            if (odd) {
                mul(a, square, to);
            } else {
                Arrays.fill(wide, 0);
                System.arraycopy(a, 0, wide, 0, n);
                rest(wide, n, to);
            }
        }

        void leave(long[] a, long[] to) {
            if (odd) {
                System.arraycopy(a, 0, wide, 0, n);
                Arrays.fill(wide, n, 2 * n + 1, 0);
                shrink(to);
            } else if (a != to) {
                System.arraycopy(a, 0, to, 0, n);
            }
        }

        void plus(long[] a, long[] b, long[] to) {
            if (added(a, b, to, n) != 0 || compared(to, m, n) >= 0) {
                less(to, m, to, n);
            }
        }

        void minus(long[] a, long[] b, long[] to) {
            if (less(a, b, to, n) != 0) {
                added(to, m, to, n);
            }
        }

        void negative(long[] a, long[] to) {
            if (isZero(a, n)) {
                Arrays.fill(to, 0, n, 0);
            } else {
                less(m, a, to, n);
            }
        }

        /** The product of two plain numbers, the first of which is below the modulus. */
        void times(long[] a, long[] b, long[] to) {
            enter(b, held);
            mul(a, held, to);
        }

        /** An entered number to the power of a plain one of so many bits; to is neither of them. */
        void power(long[] a, long[] e, int count, long[] to) {
            System.arraycopy(one, 0, to, 0, n);
            for (int i = count - 1; i >= 0; i--) {
                mul(to, to, to);
                if (bit(e, i)) {
                    mul(to, a, to);
                }
            }
        }
    }

    /** Wide numbers at work, primes and their witnesses, delays, and RSA. */
    private static final class Numbers {
        private static final int MANY = 37;
        private static final int[] PRIMES = {
            2, 3, 5, 7, 11, 13, 17, 19, 23, 29, 31, 37, 41, 43, 47, 53, 59, 61, 67, 71
        };
        private static final int[] NAMES = {0, 4, 1, 2, 3, 6, 7, 8, 9, 10};
        private static final int[] FIRST_NAME = {0x30, 0x21, 0x30, 9, 6, 5, 0x2b, 14, 3, 2, 26, 5, 0, 4, 20};
        private static final int[] OTHER_NAMES = {
            0x30, 0, 0x30, 13, 6, 9, 0x60, 0x86, 0x48, 1, 0x65, 3, 4, 2, 0, 5, 0, 4, 0
        };
        private final Ring ring = new Ring(MANY + 1);
        private final Ring sieve = new Ring(MANY + 1);
        private final Digest digest;
        private final long[] a = new long[80];
        private final long[] b = new long[80];
        private final long[] m = new long[80];
        private final long[] u = new long[80];
        private final long[] v = new long[80];
        private final long[] x = new long[80];
        private final long[] y = new long[80];
        private final long[] z = new long[80];
        private final long[] odd = new long[80];
        private final long[] power = new long[80];
        private final long[] minusOne = new long[80];
        private final int[] code = new int[128];
        private final int[] sum = new int[64];
        private final int[] other = new int[64];

        Numbers(Digest digest) {
            this.digest = digest;
        }

        private static boolean load(Row r, long[] to) {
            int width = r.width();
            if (width > 128) {
                return false;
            }
            Ring.load(r.b, r.n - width, width, to);
            return true;
        }

        private static int give(long[] v, int limbs, Row out) {
            int bytes = (Ring.bitsOf(v, limbs) + 7) / 8;
            Ring.store(v, out.b, 0, bytes);
            out.n = bytes;
            return bytes;
        }

        private static void copy(long[] from, long[] to) {
            System.arraycopy(from, 0, to, 0, to.length);
        }

        int worked(int op, Row first, Row second, Row modulus, Row out) {
            boolean hasSecond = op != 9 && op != 11;
            boolean hasModulus = op >= 5 && op <= 9 || op == 11;
            if (!load(first, a) || hasSecond && !load(second, b) || hasModulus && !load(modulus, m)) {
                return BAD;
            }
            if (op <= 4) {
                return plain(op, out);
            }
            if (op == 10) {
                return give(commonDivisor(a, b), MANY, out);
            }
            if (op == 11) {
                return root(out);
            }
            return Ring.isZero(m, MANY) ? WRONG : modular(op, out);
        }

        private int plain(int op, Row out) {
            switch (op) {
                case 0:
                    Ring.added(a, b, a, MANY + 1);
                    return give(a, MANY + 1, out);
                case 1:
                    if (Ring.compared(a, b, MANY) < 0) {
                        return WRONG;
                    }
                    Ring.less(a, b, a, MANY);
                    return give(a, MANY, out);
                case 2:
                    Ring.product(a, b, MANY, u);
                    return give(u, 2 * MANY, out);
                default:
                    break;
            }
            int limbs = Ring.limbsOf(b, MANY);
            if (limbs == 0) {
                return WRONG;
            }
            Arrays.fill(u, 0);
            Ring.divide(a, MANY, b, limbs, u);
            return give(op == 3 ? u : a, MANY, out);
        }

        /** Both numbers are used up; the answer is one of the two arrays. */
        private static long[] commonDivisor(long[] first, long[] second) {
            long[] r = first;
            long[] s = second;
            for (int i = 0; i < 4000; i++) {
                int limbs = Ring.limbsOf(s, MANY);
                if (limbs == 0) {
                    break;
                }
                Ring.divide(r, Ring.limbsOf(r, MANY), s, limbs, null);
                long[] t = r;
                r = s;
                s = t;
            }
            return r;
        }

        private void reduce(long[] number) {
            copy(number, u);
            Arrays.fill(number, 0);
            ring.rest(u, MANY, number);
        }

        private int modular(int op, Row out) {
            ring.set(m, MANY);
            reduce(a);
            if (op == 9) {
                return inverse(out);
            }
            if (op != 8) {
                reduce(b);
            }
            Arrays.fill(z, 0);
            if (op == 5) {
                ring.plus(a, b, z);
            } else if (op == 6) {
                ring.minus(a, b, z);
            } else if (op == 7) {
                ring.times(a, b, z);
            } else {
                ring.enter(a, x);
                ring.power(x, b, Ring.bitsOf(b, MANY), z);
                ring.leave(z, z);
            }
            return give(z, ring.n, out);
        }

        /** Euclid's steps; the factors change their sign with each, so their sizes alone are kept. */
        private int inverse(Row out) {
            long[] r = u;
            long[] s = a;
            long[] f = x;
            long[] g = y;
            copy(m, r);
            Arrays.fill(f, 0);
            Arrays.fill(g, 0);
            g[0] = 1;
            boolean minus = true;
            for (int i = 0; i < 4000; i++) {
                int limbs = Ring.limbsOf(s, MANY);
                if (limbs == 0) {
                    break;
                }
                int count = Ring.limbsOf(r, MANY);
                Arrays.fill(z, 0);
                Ring.divide(r, count, s, limbs, z);
                addTimes(f, z, count - limbs + 1, g);
                long[] t = r;
                r = s;
                s = t;
                t = f;
                f = g;
                g = t;
                minus = !minus;
            }
            if (!Ring.isSmall(r, MANY, 1) || Ring.isSmall(m, MANY, 1)) {
                return WRONG;
            }
            if (minus) {
                Ring.less(m, f, f, MANY);
            }
            return give(f, MANY, out);
        }

        private static void addTimes(long[] to, long[] q, int count, long[] g) {
            for (int i = 0; i < count; i++) {
                long carry = 0;
                for (int j = 0; q[i] != 0 && i + j < MANY; j++) {
                    carry += to[i + j] + q[i] * g[j];
                    to[i + j] = carry & Ring.LIMB;
                    carry >>>= Ring.BITS;
                }
            }
        }

        /** How often 2 divides a number that is not 0. */
        private static int twos(long[] number) {
            int e = 0;
            int bits = MANY * Ring.BITS;
            for (int i = 0; i < bits && !Ring.bit(number, i); i++) {
                e++;
            }
            return e;
        }

        /** odd becomes the number less 1, halved until it is odd: how often. */
        private int split(long[] number) {
            copy(number, odd);
            odd[0] &= ~1L;
            int e = twos(odd);
            for (int i = 0; i < e; i++) {
                Ring.half(odd, MANY);
            }
            return e;
        }

        /** Tonelli's and Shanks' steps; r is x, t is y, c is z. */
        private int root(Row out) {
            if (Ring.bitsOf(m, MANY) < 2 || (m[0] & 1) == 0 || split(m) > 100 || !isPrime(m, 20)) {
                return WRONG;
            }
            int e = split(m);
            ring.set(m, MANY);
            reduce(a);
            if (Ring.isZero(a, MANY)) {
                out.clear();
                return 0;
            }
            ring.enter(a, a);
            copy(m, b);
            Ring.half(b, MANY);
            ring.power(a, b, Ring.bitsOf(b, MANY), z);
            if (!isOne(z)) {
                return WRONG;
            }
            ring.power(a, odd, Ring.bitsOf(odd, MANY), y);
            copy(odd, v);
            Ring.addSmall(v, 1, MANY + 1);
            Ring.half(v, MANY + 1);
            ring.power(a, v, Ring.bitsOf(v, MANY), x);
            if (!isOne(y) && (!nonSquare() || !rootSteps(e))) {
                return WRONG;
            }
            Arrays.fill(z, 0);
            ring.leave(x, z);
            ring.negative(z, u);
            return give(Ring.compared(z, u, ring.n) <= 0 ? z : u, ring.n, out);
        }

        private boolean isOne(long[] number) {
            return Ring.compared(number, ring.one, ring.n) == 0;
        }

        /** z becomes the first number, of 2 .. 1000, that is no square, to the power odd; b is half of m - 1. */
        private boolean nonSquare() {
            for (int i = 2; i <= 1000; i++) {
                Arrays.fill(v, 0);
                v[0] = i;
                reduce(v);
                ring.enter(v, v);
                ring.power(v, b, Ring.bitsOf(b, MANY), z);
                if (!isOne(z)) {
                    ring.power(v, odd, Ring.bitsOf(odd, MANY), z);
                    return true;
                }
            }
            return false;
        }

        private boolean rootSteps(int twos) {
            int e = twos;
            for (int i = 0; i <= 101 && !isOne(y); i++) {
                copy(y, v);
                int k = 0;
                for (int j = 0; j < e && !isOne(v); j++) {
                    ring.mul(v, v, v);
                    k++;
                }
                if (k >= e) {
                    return false;
                }
                for (int j = 0; j < e - k - 1; j++) {
                    ring.mul(z, z, z);
                }
                ring.mul(x, z, x);
                ring.mul(z, z, z);
                ring.mul(y, z, y);
                e = k;
            }
            return true;
        }

        /** PRIME by the first k primes, k at least 1. */
        private boolean isPrime(long[] number, int k) {
            int bits = Ring.bitsOf(number, MANY);
            if (bits < 2 || (number[0] & 1) == 0) {
                return Ring.isSmall(number, MANY, 2);
            }
            int bases = 0;
            for (int i = 0; i < k && (bits > 7 || number[0] > PRIMES[i]); i++) {
                // A base that divides the number never comes to 1 or -1.
                if (Ring.restBySmall(number, MANY, PRIMES[i]) == 0) {
                    return false;
                }
                bases++;
            }
            sieve.set(number, MANY);
            int e = split(number);
            sieve.negative(sieve.one, minusOne);
            for (int i = 0; i < bases; i++) {
                if (!passes(PRIMES[i], e)) {
                    return false;
                }
            }
            return true;
        }

        private boolean passes(int base, int e) {
            Arrays.fill(power, 0);
            power[0] = base;
            sieve.enter(power, power);
            sieve.power(power, odd, Ring.bitsOf(odd, MANY), u);
            if (Ring.compared(u, sieve.one, sieve.n) == 0) {
                return true;
            }
            for (int i = 0; i < e; i++) {
                if (Ring.compared(u, minusOne, sieve.n) == 0) {
                    return true;
                }
                sieve.mul(u, u, u);
            }
            return false;
        }

        int primeBy(Row number, int k) {
            if (k < 1 || k > 20 || !load(number, a)) {
                return BAD;
            }
            return isPrime(a, k) ? 1 : 0;
        }

        int witnessed(Row number, Row factor, Row base) {
            if (!load(number, m) || !load(factor, b) || !load(base, a)) {
                return BAD;
            }
            if (Ring.bitsOf(m, MANY) < 2 || !isPrime(b, 20)) {
                return 0;
            }
            Ring.product(b, b, MANY, u);
            if (Ring.compared(u, m, 2 * MANY) <= 0) {
                return 0;
            }
            copy(m, u);
            Arrays.fill(v, 0);
            v[0] = 1;
            Ring.less(u, v, u, MANY);
            copy(u, y);
            Arrays.fill(v, 0);
            Ring.divide(u, MANY, b, Ring.limbsOf(b, MANY), v);
            if (!Ring.isZero(u, MANY)) {
                return 0;
            }
            ring.set(m, MANY);
            reduce(a);
            ring.enter(a, a);
            ring.power(a, y, Ring.bitsOf(y, MANY), z);
            if (!isOne(z)) {
                return 0;
            }
            Arrays.fill(z, 0);
            ring.power(a, v, Ring.bitsOf(v, MANY), z);
            ring.minus(z, ring.one, z);
            ring.leave(z, z);
            return Ring.isSmall(commonDivisor(m, z), MANY, 1) ? 1 : 0;
        }

        /** Makes x (in a) and n (in m) ready for a delay of t. */
        private boolean delayFits(Row start, Row modulus, int t) {
            if (t < 1 || t > 2000 || !load(modulus, m) || !load(start, a)) {
                return false;
            }
            boolean fits = (m[0] & 1) != 0 && Ring.bitsOf(m, MANY) >= 2;
            if (!fits || Ring.isZero(a, MANY) || Ring.compared(a, m, MANY) >= 0) {
                return false;
            }
            ring.set(m, MANY);
            return true;
        }

        /** The prime l, in b, that x, y (plain, in z) and t lead to. */
        private void delayPrime(int t) {
            int bytes = (ring.bits + 7) / 8;
            digest.start(Digest.SHA256, 0);
            Ring.store(a, code, 0, bytes);
            digest.eat(code, 0, bytes);
            Ring.store(z, code, 0, bytes);
            digest.eat(code, 0, bytes);
            digest.eatByte(t >>> 24);
            digest.eatByte(t >>> 16);
            digest.eatByte(t >>> 8);
            digest.eatByte(t);
            digest.finish(sum, 0);
            sum[0] |= 128;
            sum[31] |= 1;
            Ring.load(sum, 0, 32, b);
            for (int i = 0; i < 1000000 && !isPrime(b, 20); i++) {
                Ring.addSmall(b, 2, MANY);
            }
        }

        /** The rest of 2 * v by l: whether l was taken away. */
        private boolean doubleByPrime() {
            Ring.added(v, v, v, MANY);
            if (Ring.compared(v, b, MANY) < 0) {
                return false;
            }
            Ring.less(v, b, v, MANY);
            return true;
        }

        int delayed(Row start, Row modulus, int t, Row out) {
            if (!delayFits(start, modulus, t)) {
                return BAD;
            }
            ring.enter(a, x);
            copy(x, y);
            for (int i = 0; i < t; i++) {
                ring.mul(y, y, y);
            }
            Arrays.fill(z, 0);
            ring.leave(y, z);
            delayPrime(t);
            Arrays.fill(v, 0);
            v[0] = 1;
            copy(ring.one, y, ring.n);
            for (int i = 0; i < t; i++) {
                ring.mul(y, y, y);
                if (doubleByPrime()) {
                    ring.mul(y, x, y);
                }
            }
            int bytes = (ring.bits + 7) / 8;
            Ring.store(z, out.b, 0, bytes);
            Arrays.fill(z, 0);
            ring.leave(y, z);
            Ring.store(z, out.b, bytes, bytes);
            out.n = 2 * bytes;
            return out.n;
        }

        private static void copy(long[] from, long[] to, int n) {
            System.arraycopy(from, 0, to, 0, n);
        }

        int delayChecked(Row start, Row modulus, int t, Row proof) {
            if (!delayFits(start, modulus, t)) {
                return BAD;
            }
            int bytes = (ring.bits + 7) / 8;
            if (proof.n != 2 * bytes) {
                return 0;
            }
            Ring.load(proof.b, 0, bytes, z);
            Ring.load(proof.b, bytes, bytes, y);
            if (Ring.compared(z, m, MANY) >= 0 || Ring.compared(y, m, MANY) >= 0) {
                return 0;
            }
            delayPrime(t);
            ring.enter(y, y);
            ring.power(y, b, Ring.bitsOf(b, MANY), x);
            Arrays.fill(v, 0);
            v[0] = 1;
            for (int i = 0; i < t; i++) {
                doubleByPrime();
            }
            ring.enter(a, a);
            ring.power(a, v, Ring.bitsOf(v, MANY), y);
            ring.mul(x, y, x);
            ring.enter(z, z);
            return Ring.compared(x, z, ring.n) == 0 ? 1 : 0;
        }

        /** RSA: the number in code, of so many bytes, to the power that is in b; false if it is not below n. */
        private boolean raised(int k) {
            Ring.load(code, 0, k, a);
            if (Ring.compared(a, m, MANY) >= 0) {
                return false;
            }
            ring.enter(a, x);
            Arrays.fill(z, 0);
            ring.power(x, b, Ring.bitsOf(b, MANY), z);
            ring.leave(z, z);
            Ring.store(z, code, 0, k);
            return true;
        }

        /** One of the eight kinds of RSA. */
        int rsaOf(int kind, int h, Row n, Row e, Row text, Row more, Row out) {
            int k = n.width();
            if (k < 64 || !load(n, m) || !load(e, b)) {
                return BAD;
            }
            if (Ring.bitsOf(b, MANY) < 2 || Ring.isSmall(b, MANY, 2) || Ring.compared(b, m, MANY) >= 0) {
                return BAD;
            }
            ring.set(m, MANY);
            switch (kind) {
                case 0:
                    return oaepSealed(h, k, text, more, out);
                case 1:
                    return oaepOpened(h, k, text, more, out);
                case 2:
                    return pkcsSealed(k, text, more, out);
                case 3:
                    return pkcsOpened(k, text, out);
                case 4:
                    return pssSigned(h, k, text, more, out);
                case 5:
                    return pssVerified(h, k, text, more, out);
                case 6:
                    return pkcsSigned(h, k, text, out);
                default:
                    return pkcsVerified(h, k, text, more, out);
            }
        }

        private int raisedOut(int k, Row out) {
            if (!raised(k)) {
                return WRONG;
            }
            out.clear();
            out.add(code, 0, k);
            return k;
        }

        /** Mixes MGF1 of a part of code into another part of it. */
        private void mask(int h, int at, int len, int into, int count) {
            int size = Digest.sizeOf(h);
            for (int i = 0; i < count && i * size < count; i++) {
                digest.start(h, 0);
                digest.eat(code, at, len);
                digest.eatByte(0);
                digest.eatByte(0);
                digest.eatByte(0);
                digest.eatByte(i);
                digest.finish(sum, 0);
                for (int j = 0; j < size && i * size + j < count; j++) {
                    code[into + i * size + j] ^= sum[j];
                }
            }
        }

        private int hashed(int h, Row text, int[] to, int at) {
            digest.start(h, 0);
            digest.eat(text.b, 0, text.n);
            return digest.finish(to, at);
        }

        private int oaepSealed(int h, int k, Row text, Row more, Row out) {
            int size = Digest.sizeOf(h);
            if (k < 2 * size + 2 || text.n > k - 2 * size - 2 || more.n < size) {
                return BAD;
            }
            Arrays.fill(code, 0, k, 0);
            System.arraycopy(more.b, 0, code, 1, size);
            digest.start(h, 0);
            digest.eat(more.b, size, more.n - size);
            digest.finish(code, 1 + size);
            code[k - text.n - 1] = 1;
            System.arraycopy(text.b, 0, code, k - text.n, text.n);
            mask(h, 1, size, 1 + size, k - size - 1);
            mask(h, 1 + size, k - size - 1, 1, size);
            return raisedOut(k, out);
        }

        private int oaepOpened(int h, int k, Row text, Row more, Row out) {
            int size = Digest.sizeOf(h);
            if (k < 2 * size + 2 || text.n != k) {
                return BAD;
            }
            System.arraycopy(text.b, 0, code, 0, k);
            if (!raised(k)) {
                return WRONG;
            }
            mask(h, 1 + size, k - size - 1, 1, size);
            mask(h, 1, size, 1 + size, k - size - 1);
            hashed(h, more, sum, 0);
            int differs = code[0];
            for (int i = 0; i < size; i++) {
                differs |= code[1 + size + i] ^ sum[i];
            }
            int at = 1 + 2 * size;
            for (int i = at; i < k && code[i] == 0; i++) {
                at++;
            }
            if (differs != 0 || at >= k || code[at] != 1) {
                return WRONG;
            }
            out.clear();
            out.add(code, at + 1, k - at - 1);
            return out.n;
        }

        private int pkcsSealed(int k, Row text, Row more, Row out) {
            if (text.n > k - 11 || more.n != k - 3 - text.n) {
                return BAD;
            }
            code[0] = 0;
            code[1] = 2;
            for (int i = 0; i < more.n; i++) {
                if (more.b[i] == 0) {
                    return BAD;
                }
                code[2 + i] = more.b[i];
            }
            code[2 + more.n] = 0;
            System.arraycopy(text.b, 0, code, 3 + more.n, text.n);
            return raisedOut(k, out);
        }

        private int pkcsOpened(int k, Row text, Row out) {
            if (text.n != k) {
                return BAD;
            }
            System.arraycopy(text.b, 0, code, 0, k);
            if (!raised(k)) {
                return WRONG;
            }
            int at = 2;
            for (int i = 2; i < k && code[i] != 0; i++) {
                at++;
            }
            if (code[0] != 0 || code[1] != 2 || at < 10 || at >= k) {
                return WRONG;
            }
            out.clear();
            out.add(code, at + 1, k - at - 1);
            return out.n;
        }

        /** The hash of eight 0s, the text's hash and the salt, which PSS puts behind its mask. */
        private void saltedHash(int h, Row salt, int at, int count, int[] to, int into) {
            digest.start(h, 0);
            for (int i = 0; i < 8; i++) {
                digest.eatByte(0);
            }
            digest.eat(other, 0, Digest.sizeOf(h));
            digest.eat(salt.b, at, count);
            digest.finish(to, into);
        }

        private int pssSigned(int h, int k, Row text, Row salt, Row out) {
            int size = Digest.sizeOf(h);
            int length = (ring.bits + 6) / 8;
            if (salt.n > length - size - 2) {
                return BAD;
            }
            int at = k - length;
            Arrays.fill(code, 0, k, 0);
            hashed(h, text, other, 0);
            saltedHash(h, salt, 0, salt.n, code, k - 1 - size);
            code[k - 1] = 0xbc;
            System.arraycopy(salt.b, 0, code, k - 1 - size - salt.n, salt.n);
            code[k - 2 - size - salt.n] = 1;
            mask(h, k - 1 - size, size, at, length - size - 1);
            code[at] &= 255 >> 8 * length - ring.bits + 1;
            return raisedOut(k, out);
        }

        private int pssVerified(int h, int k, Row text, Row more, Row out) {
            int size = Digest.sizeOf(h);
            int length = (ring.bits + 6) / 8;
            if (more.n != k + 1 || more.b[0] > length - size - 2) {
                return BAD;
            }
            int salt = more.b[0];
            System.arraycopy(more.b, 1, code, 0, k);
            if (!raised(k)) {
                return WRONG;
            }
            int at = k - length;
            int least = 255 >> 8 * length - ring.bits + 1;
            if (at > 0 && code[0] != 0 || code[k - 1] != 0xbc || code[at] > least) {
                return WRONG;
            }
            mask(h, k - 1 - size, size, at, length - size - 1);
            code[at] &= least;
            int one = k - 2 - size - salt;
            int differs = code[one] ^ 1;
            for (int i = at; i < one; i++) {
                differs |= code[i];
            }
            hashed(h, text, other, 0);
            out.clear();
            out.add(code, one + 1, salt);
            saltedHash(h, out, 0, salt, sum, 0);
            for (int i = 0; i < size; i++) {
                differs |= sum[i] ^ code[k - 1 - size + i];
            }
            out.clear();
            out.add(other, 0, size);
            return differs == 0 ? size : WRONG;
        }

        /** The code of PKCS1 v1.5 for a text's hash, which stays in other; false if n is too short. */
        private boolean signedCode(int h, int k, Row text) {
            int size = hashed(h, text, other, 0);
            int prefix = h == 0 ? 15 : 19;
            if (k < prefix + size + 11) {
                return false;
            }
            int at = k - size - prefix;
            code[0] = 0;
            code[1] = 1;
            Arrays.fill(code, 2, at - 1, 255);
            code[at - 1] = 0;
            System.arraycopy(h == 0 ? FIRST_NAME : OTHER_NAMES, 0, code, at, prefix);
            if (h > 0) {
                code[at + 1] = 17 + size;
                code[at + 14] = NAMES[h];
                code[at + 18] = size;
            }
            System.arraycopy(other, 0, code, k - size, size);
            return true;
        }

        private int pkcsSigned(int h, int k, Row text, Row out) {
            return signedCode(h, k, text) ? raisedOut(k, out) : BAD;
        }

        private int pkcsVerified(int h, int k, Row text, Row signature, Row out) {
            if (signature.n != k || !signedCode(h, k, text)) {
                return BAD;
            }
            out.clear();
            out.add(code, 0, k);
            System.arraycopy(signature.b, 0, code, 0, k);
            if (!raised(k) || !out.same(code, 0, 0, k)) {
                return WRONG;
            }
            int size = Digest.sizeOf(h);
            out.clear();
            out.add(other, 0, size);
            return size;
        }
    }

    /** One of the curves y * y = x * x * x + a * x + b, its points in Jacobian form, and its signatures. */
    private static final class Curve {
        private static final String P0 = "ffffffff00000001000000000000000000000000ffffffffffffffffffffffff";
        private static final String B0 = "5ac635d8aa3a93e7b3ebbd55769886bc651d06b0cc53b0f63bce3c3e27d2604b";
        private static final String X0 = "6b17d1f2e12c4247f8bce6e563a440f277037d812deb33a0f4a13945d898c296";
        private static final String Y0 = "4fe342e2fe1a7f9b8ee7eb4a7c0f9e162bce33576b315ececbb6406837bf51f5";
        private static final String Q0 = "ffffffff00000000ffffffffffffffffbce6faada7179e84f3b9cac2fc632551";
        private static final String P1 = "fffffffffffffffffffffffffffffffffffffffffffffffffffffffffffffffeffffffff0000000000000000ffffffff";
        private static final String B1 = "b3312fa7e23ee7e4988e056be3f82d19181d9c6efe8141120314088f5013875ac656398d8a2ed19d2a85c8edd3ec2aef";
        private static final String X1 = "aa87ca22be8b05378eb1c71ef320ad746e1d3b628ba79b9859f741e082542a385502f25dbf55296c3a545e3872760ab7";
        private static final String Y1 = "3617de4a96262c6f5d9e98bf9292dc29f8f41dbd289a147ce9da3113b5f0b8c00a60b1ce1d7e819d7a431d7c90ea0e5f";
        private static final String Q1 = "ffffffffffffffffffffffffffffffffffffffffffffffffc7634d81f4372ddf581a0db248b0a77aecec196accc52973";
        private static final String P2 = "fffffffffffffffffffffffffffffffffffffffffffffffffffffffefffffc2f";
        private static final String X2 = "79be667ef9dcbbac55a06295ce870b07029bfcdb2dce28d959f2815b16f81798";
        private static final String Y2 = "483ada7726a3c4655da4fbfc0e1108a8fd17b448a68554199c47d08ffb10d4b8";
        private static final String Q2 = "fffffffffffffffffffffffffffffffebaaedce6af48a03bbfd25e8cd0364141";

        /** How many bytes x has, and how many limbs hold it. */
        final int w;
        final int n;
        final Ring p;
        final Ring q;
        final long[][] base;
        private final boolean flat;
        private final long[] b;
        private final long[] quarter;
        private final long[][] t;
        private final long[][] held;
        private final long[][] first;
        private final long[][] second;
        private final long[] px;
        private final long[] py;
        private final long[][] k;
        private final Digest digest;
        private final Mac mac;
        private final int[] sum = new int[64];
        private final int[] next = new int[64];
        private final Row made = new Row(128);

        Curve(int which, Digest digest, Mac mac) {
            this.digest = digest;
            this.mac = mac;
            w = which == 1 ? 48 : 32;
            n = which == 1 ? 14 : 10;
            p = new Ring(n + 1);
            q = new Ring(n + 1);
            b = new long[n + 1];
            quarter = new long[n + 1];
            px = new long[n + 1];
            py = new long[n + 1];
            base = new long[3][n + 1];
            held = new long[3][n + 1];
            first = new long[3][n + 1];
            second = new long[3][n + 1];
            t = new long[8][n + 1];
            k = new long[6][2 * n + 4];
            flat = which == 2;
            Ring.hex(which == 0 ? P0 : which == 1 ? P1 : P2, px);
            p.set(px, n);
            Ring.hex(which == 0 ? Q0 : which == 1 ? Q1 : Q2, py);
            q.set(py, n);
            System.arraycopy(px, 0, quarter, 0, n);
            Ring.addSmall(quarter, 1, n);
            Ring.half(quarter, n);
            Ring.half(quarter, n);
            Ring.hex(which == 0 ? B0 : which == 1 ? B1 : "7", b);
            p.enter(b, b);
            Ring.hex(which == 0 ? X0 : which == 1 ? X1 : X2, base[0]);
            Ring.hex(which == 0 ? Y0 : which == 1 ? Y1 : Y2, base[1]);
            p.enter(base[0], base[0]);
            p.enter(base[1], base[1]);
            System.arraycopy(p.one, 0, base[2], 0, n);
        }

        long[][] newPoint() {
            return new long[3][n + 1];
        }

        boolean isNone(long[][] a) {
            return Ring.isZero(a[2], n);
        }

        void none(long[][] a) {
            copy(p.one, a[0]);
            copy(p.one, a[1]);
            Arrays.fill(a[2], 0);
        }

        private void copy(long[] from, long[] to) {
            System.arraycopy(from, 0, to, 0, n);
        }

        void copyPoint(long[][] from, long[][] to) {
            copy(from[0], to[0]);
            copy(from[1], to[1]);
            copy(from[2], to[2]);
        }

        void turn(long[][] a) {
            p.negative(a[1], a[1]);
        }

        void twice(long[][] a, long[][] to) {
            long[] x = a[0];
            long[] y = a[1];
            long[] z = a[2];
            if (flat) {
                p.mul(x, x, t[0]);
            } else {
                p.mul(z, z, t[1]);
                p.minus(x, t[1], t[0]);
                p.plus(x, t[1], t[1]);
                p.mul(t[0], t[1], t[0]);
            }
            p.plus(t[0], t[0], t[1]);
            p.plus(t[0], t[1], t[0]);
            p.mul(y, y, t[1]);
            p.mul(x, t[1], t[2]);
            p.plus(t[2], t[2], t[2]);
            p.plus(t[2], t[2], t[2]);
            p.mul(t[1], t[1], t[1]);
            p.mul(y, z, t[3]);
            p.plus(t[3], t[3], to[2]);
            p.mul(t[0], t[0], t[3]);
            p.minus(t[3], t[2], t[3]);
            p.minus(t[3], t[2], to[0]);
            p.minus(t[2], to[0], t[2]);
            p.mul(t[0], t[2], t[2]);
            p.plus(t[1], t[1], t[1]);
            p.plus(t[1], t[1], t[1]);
            p.plus(t[1], t[1], t[1]);
            p.minus(t[2], t[1], to[1]);
        }

        void plus(long[][] a, long[][] c, long[][] to) {
            if (isNone(a)) {
                copyPoint(c, to);
                return;
            }
            if (isNone(c)) {
                copyPoint(a, to);
                return;
            }
            boolean unit = Ring.compared(c[2], p.one, n) == 0;
            p.mul(a[2], a[2], t[0]);
            p.mul(c[0], t[0], t[1]);
            p.mul(t[0], a[2], t[0]);
            p.mul(c[1], t[0], t[2]);
            long[] x = a[0];
            long[] y = a[1];
            if (!unit) {
                p.mul(c[2], c[2], t[0]);
                p.mul(a[0], t[0], t[3]);
                p.mul(t[0], c[2], t[0]);
                p.mul(a[1], t[0], t[4]);
                x = t[3];
                y = t[4];
            }
            p.minus(t[1], x, t[1]);
            p.minus(t[2], y, t[2]);
            if (Ring.isZero(t[1], n)) {
                if (Ring.isZero(t[2], n)) {
                    twice(a, to);
                } else {
                    none(to);
                }
                return;
            }
            p.mul(a[2], t[1], t[5]);
            if (!unit) {
                p.mul(t[5], c[2], t[5]);
            }
            p.mul(t[1], t[1], t[0]);
            p.mul(t[0], t[1], t[1]);
            p.mul(x, t[0], t[0]);
            p.mul(y, t[1], t[6]);
            p.mul(t[2], t[2], t[7]);
            p.minus(t[7], t[1], t[7]);
            p.minus(t[7], t[0], t[7]);
            p.minus(t[7], t[0], to[0]);
            p.minus(t[0], to[0], t[0]);
            p.mul(t[0], t[2], t[0]);
            p.minus(t[0], t[6], to[1]);
            copy(t[5], to[2]);
        }

        /** A point so many times as a plain number tells; to may be the point itself. */
        void times(long[] number, long[][] a, long[][] to) {
            copyPoint(a, held);
            none(to);
            for (int i = Ring.bitsOf(number, n) - 1; i >= 0; i--) {
                twice(to, to);
                if (Ring.bit(number, i)) {
                    plus(to, held, to);
                }
            }
        }

        /** px and py become the plain coordinates of a point that is not NONE. */
        void flatten(long[][] a) {
            if (Ring.compared(a[2], p.one, n) != 0) {
                p.power(a[2], p.inverting, p.bits, t[0]);
                p.mul(t[0], t[0], t[1]);
                p.mul(a[0], t[1], a[0]);
                p.mul(t[0], t[1], t[0]);
                p.mul(a[1], t[0], a[1]);
                copy(p.one, a[2]);
            }
            p.leave(a[0], px);
            p.leave(a[1], py);
        }

        /** A point in its short form, or in its long one, put behind what out has. */
        int encode(long[][] a, boolean whole, Row out) {
            if (isNone(a)) {
                out.push(0);
                return out.n;
            }
            flatten(a);
            out.push(whole ? 4 : 2 + (int) (py[0] & 1));
            pushNumber(px, out);
            if (whole) {
                pushNumber(py, out);
            }
            return out.n;
        }

        void pushNumber(long[] number, Row out) {
            for (int i = w - 1; i >= 0; i--) {
                out.push(Ring.byteOf(number, i));
            }
        }

        /** The point with this x and the even or the odd y, if there is one. */
        boolean lift(int[] from, int at, int parity, long[][] to) {
            if (!coordinate(from, at, to[0])) {
                return false;
            }
            copy(p.one, to[2]);
            curveSide(to[0], t[0]);
            p.power(t[0], quarter, p.bits, to[1]);
            p.mul(to[1], to[1], t[1]);
            if (Ring.compared(t[0], t[1], n) != 0) {
                return false;
            }
            p.leave(to[1], py);
            if ((py[0] & 1) != parity) {
                turn(to);
            }
            return true;
        }

        private void curveSide(long[] x, long[] to) {
            p.mul(x, x, t[1]);
            p.mul(t[1], x, t[1]);
            if (!flat) {
                p.minus(t[1], x, t[1]);
                p.minus(t[1], x, t[1]);
                p.minus(t[1], x, t[1]);
            }
            p.plus(t[1], b, to);
        }

        private boolean coordinate(int[] from, int at, long[] to) {
            Ring.load(from, at, w, to);
            if (Ring.compared(to, p.m, n) >= 0) {
                return false;
            }
            p.enter(to, to);
            return true;
        }

        boolean decode(int[] from, int at, int len, long[][] to) {
            if (len == 1 && from[at] == 0) {
                none(to);
                return true;
            }
            if (len == 1 + w && (from[at] == 2 || from[at] == 3)) {
                return lift(from, at + 1, from[at] & 1, to);
            }
            if (len != 1 + 2 * w || from[at] != 4) {
                return false;
            }
            if (!coordinate(from, at + 1, to[0]) || !coordinate(from, at + 1 + w, to[1])) {
                return false;
            }
            copy(p.one, to[2]);
            curveSide(to[0], t[0]);
            p.mul(to[1], to[1], t[1]);
            return Ring.compared(t[0], t[1], n) == 0;
        }

        /** A number of w bytes, 0 or more and below q. */
        boolean below(int[] from, int at, long[] to) {
            Ring.load(from, at, w, to);
            return Ring.compared(to, q.m, n) < 0;
        }

        /** A row of w bytes that is a number 1 .. q - 1. */
        boolean secret(Row r, long[] to) {
            return r.n == w && below(r.b, 0, to) && !Ring.isZero(to, n);
        }

        /** An op on points. */
        int pointed(int op, Row a, Row c, Row out) {
            if (op <= 1 && a.n > w) {
                return BAD;
            }
            Row point = op == 1 ? c : a;
            boolean good = op == 0 || decode(point.b, 0, point.n, first);
            if (!good || op == 2 && !decode(c.b, 0, c.n, second)) {
                return WRONG;
            }
            if (op <= 1) {
                Ring.load(a.b, 0, a.n, k[0]);
                times(k[0], op == 0 ? base : first, first);
            } else if (op == 2) {
                plus(first, second, first);
            } else if (op == 3) {
                turn(first);
            }
            out.clear();
            return encode(first, op == 4, out);
        }

        int agreed(Row own, Row other, Row out) {
            if (!secret(own, k[0])) {
                return BAD;
            }
            if (!decode(other.b, 0, other.n, first) || isNone(first)) {
                return WRONG;
            }
            times(k[0], first, first);
            flatten(first);
            out.clear();
            pushNumber(px, out);
            return out.n;
        }

        int keyOf(Row own, boolean xAlone, Row out) {
            if (!secret(own, k[0])) {
                return BAD;
            }
            times(k[0], base, first);
            out.clear();
            if (!xAlone) {
                return encode(first, false, out);
            }
            flatten(first);
            pushNumber(px, out);
            return out.n;
        }

        /** The highest bytes of a text's hash as a number modulo q. */
        private void hashed(int h, Row x, long[] to) {
            digest.start(h, 0);
            digest.eat(x.b, 0, x.n);
            int size = digest.finish(sum, 0);
            Ring.load(sum, 0, Math.min(size, w), k[5]);
            q.rest(k[5], n, to);
        }

        /** Makes V and K of RFC 6979 ready, next and sum; the secret is k[0], the hash k[2]. */
        private void startNonces(int h, int size, Row more) {
            made.clear();
            pushNumber(k[0], made);
            pushNumber(k[2], made);
            Arrays.fill(next, 1);
            Arrays.fill(sum, 0);
            mac.lock(h, sum, 0, size);
            mixKey(h, size, 0, more);
            mixKey(h, size, 1, more);
        }

        /** K becomes the sum of V, a byte and what may follow; V the sum of V. */
        private void mixKey(int h, int size, int mark, Row more) {
            mac.eat(next, 0, size);
            mac.eatByte(mark);
            if (more != null) {
                mac.eat(made);
                mac.eat(more);
            }
            mac.finish(sum, 0);
            mac.lock(h, sum, 0, size);
            mac.eat(next, 0, size);
            mac.finish(next, 0);
        }

        /** k[1] becomes the next nonce, if it is 1 .. q - 1. */
        private boolean nextNonce(int size) {
            made.clear();
            for (int i = 0; i < 3 && made.n < w; i++) {
                mac.eat(next, 0, size);
                mac.finish(next, 0);
                made.add(next, 0, size);
            }
            return below(made.b, 0, k[1]) && !Ring.isZero(k[1], n);
        }

        /** k[3] becomes the x of a point, modulo q. */
        private void rest(long[][] point) {
            flatten(point);
            Arrays.fill(k[5], 0);
            copy(px, k[5]);
            q.rest(k[5], n, k[3]);
        }

        /** The inverse, entered, of a plain number modulo q. */
        private void inverse(long[] number, long[] to) {
            q.enter(number, k[5]);
            q.power(k[5], q.inverting, q.bits, to);
        }

        int ecdsaSigned(int h, Row own, Row x, Row more, Row out) {
            if (!secret(own, k[0])) {
                return BAD;
            }
            int size = Digest.sizeOf(h);
            hashed(h, x, k[2]);
            startNonces(h, size, more);
            out.clear();
            for (int i = 0; i < 1000 && out.n == 0; i++) {
                if (i > 0) {
                    mixKey(h, size, 0, null);
                }
                if (nextNonce(size)) {
                    ecdsaTry(out);
                }
            }
            return out.n;
        }

        private void ecdsaTry(Row out) {
            times(k[1], base, first);
            rest(first);
            q.times(k[3], k[0], k[4]);
            q.plus(k[4], k[2], k[4]);
            inverse(k[1], k[1]);
            q.mul(k[4], k[1], k[4]);
            if (!Ring.isZero(k[3], n) && !Ring.isZero(k[4], n)) {
                pushNumber(k[3], out);
                pushNumber(k[4], out);
            }
        }

        int ecdsaVerified(int h, Row key, Row x, Row signature) {
            if (signature.n != 2 * w || !decode(key.b, 0, key.n, first) || isNone(first)) {
                return 0;
            }
            if (!below(signature.b, 0, k[0]) || !below(signature.b, w, k[1])) {
                return 0;
            }
            if (Ring.isZero(k[0], n) || Ring.isZero(k[1], n)) {
                return 0;
            }
            hashed(h, x, k[2]);
            inverse(k[1], k[3]);
            q.mul(k[2], k[3], k[2]);
            q.mul(k[0], k[3], k[4]);
            times(k[4], first, first);
            times(k[2], base, second);
            plus(first, second, first);
            if (isNone(first)) {
                return 0;
            }
            rest(first);
            return Ring.compared(k[3], k[0], n) == 0 ? 1 : 0;
        }

        private void loadRest(int[] from, int at, long[] to) {
            Ring.load(from, at, w, k[5]);
            q.rest(k[5], n, to);
        }

        /** The secret behind two signatures with one nonce. */
        int reusedSecret(int h, Row s, Row x, Row t, Row y, Row out) {
            if (s.n != 2 * w || t.n != 2 * w) {
                return BAD;
            }
            loadRest(s.b, 0, k[0]);
            loadRest(s.b, w, k[1]);
            loadRest(t.b, w, k[2]);
            q.minus(k[1], k[2], k[2]);
            if (!s.same(t.b, 0, 0, w) || Ring.isZero(k[0], n) || Ring.isZero(k[2], n)) {
                return WRONG;
            }
            hashed(h, x, k[3]);
            hashed(h, y, k[4]);
            q.minus(k[3], k[4], k[4]);
            inverse(k[2], k[2]);
            q.mul(k[4], k[2], k[4]);
            q.times(k[4], k[1], k[4]);
            q.minus(k[4], k[3], k[4]);
            inverse(k[0], k[0]);
            q.mul(k[4], k[0], k[4]);
            out.clear();
            pushNumber(k[4], out);
            return out.n;
        }

        /** Begins a hash of BIP 340 with its tag. */
        private void tagged(String tag) {
            digest.start(Digest.SHA256, 0);
            digest.eatText(tag);
            digest.finish(sum, 0);
            digest.start(Digest.SHA256, 0);
            digest.eat(sum, 0, 32);
            digest.eat(sum, 0, 32);
        }

        private void taggedEnd(long[] to) {
            digest.finish(sum, 0);
            loadRest(sum, 0, to);
        }

        /** A number times G; where its y is odd, the number takes the other sign. */
        private void evenTimes(long[] number) {
            times(number, base, first);
            flatten(first);
            if ((py[0] & 1) != 0) {
                q.negative(number, number);
            }
        }

        int schnorrSigned(Row own, Row x, Row help, Row out) {
            if (!secret(own, k[0]) || help.n != 32) {
                return BAD;
            }
            evenTimes(k[0]);
            made.clear();
            pushNumber(px, made);
            out.clear();
            pushNumber(k[0], out);
            tagged("BIP0340/aux");
            digest.eat(help.b, 0, help.n);
            digest.finish(sum, 0);
            for (int i = 0; i < 32; i++) {
                out.b[i] ^= sum[i];
            }
            tagged("BIP0340/nonce");
            digest.eat(out.b, 0, out.n);
            digest.eat(made.b, 0, made.n);
            digest.eat(x.b, 0, x.n);
            taggedEnd(k[1]);
            if (Ring.isZero(k[1], n)) {
                return WRONG;
            }
            evenTimes(k[1]);
            out.clear();
            pushNumber(px, out);
            tagged("BIP0340/challenge");
            digest.eat(out.b, 0, out.n);
            digest.eat(made.b, 0, made.n);
            digest.eat(x.b, 0, x.n);
            taggedEnd(k[2]);
            q.times(k[2], k[0], k[3]);
            q.plus(k[3], k[1], k[3]);
            pushNumber(k[3], out);
            return out.n;
        }

        int schnorrVerified(Row key, Row x, Row signature) {
            if (key.n != 32 || signature.n != 64 || !lift(key.b, 0, 0, second)) {
                return 0;
            }
            if (!coordinate(signature.b, 0, k[0]) || !below(signature.b, 32, k[1])) {
                return 0;
            }
            tagged("BIP0340/challenge");
            digest.eat(signature.b, 0, 32);
            digest.eat(key.b, 0, key.n);
            digest.eat(x.b, 0, x.n);
            taggedEnd(k[2]);
            times(k[1], base, first);
            turn(second);
            times(k[2], second, second);
            plus(first, second, first);
            if (isNone(first)) {
                return 0;
            }
            flatten(first);
            boolean even = (py[0] & 1) == 0;
            return even && Ring.compared(first[0], k[0], n) == 0 ? 1 : 0;
        }
    }

    /** Shares of rows and of numbers, commitments, and proofs about them over curve 0. */
    private static final class Proofs {
        private final Curve curve;
        private final Digest digest;
        private final long[][] second;
        private final long[][] a;
        private final long[][] b;
        private final long[][] c;
        private final long[][] d;
        private final long[][] e;
        private final long[][] k = new long[8][24];
        private final int[] sum = new int[64];
        private final Row text = new Row(192);
        private boolean ready;

        Proofs(Curve curve, Digest digest) {
            this.curve = curve;
            this.digest = digest;
            second = curve.newPoint();
            a = curve.newPoint();
            b = curve.newPoint();
            c = curve.newPoint();
            d = curve.newPoint();
            e = curve.newPoint();
        }

        private static int product(int x, int y) {
            int r = 0;
            int v = x;
            for (int i = 0; i < 8; i++) {
                r ^= (y >> i & 1) != 0 ? v : 0;
                v = v << 1 ^ (v >= 128 ? 0x11b : 0);
            }
            return r;
        }

        /** To the power 254, which inverts in the field of 256. */
        private static int inverse(int x) {
            int r = 1;
            for (int i = 0; i < 254; i++) {
                r = product(r, x);
            }
            return r;
        }

        static int shared(int t, int i, Row x, Row coefficients, Row out) {
            boolean fits = t >= 1 && t <= 8 && i >= 1 && i <= 255 && x.n >= 1 && x.n <= 255;
            if (!fits || coefficients.n != (t - 1) * x.n) {
                return BAD;
            }
            out.clear();
            out.push(i);
            for (int j = 0; j < x.n; j++) {
                int value = 0;
                for (int r = t - 2; r >= 0; r--) {
                    value = product(value, i) ^ coefficients.b[r * x.n + j];
                }
                out.push(product(value, i) ^ x.b[j]);
            }
            return out.n;
        }

        static int restored(int t, Row x, Row out) {
            if (t < 1 || t > 8 || x.n % t != 0 || x.n / t < 2) {
                return BAD;
            }
            int size = x.n / t;
            for (int i = 0; i < t; i++) {
                for (int j = 0; j < i; j++) {
                    if (x.b[i * size] == x.b[j * size]) {
                        return BAD;
                    }
                }
                if (x.b[i * size] == 0) {
                    return BAD;
                }
            }
            out.zeros(size - 1);
            for (int i = 0; i < t; i++) {
                int weight = weight(t, i, size, x);
                for (int j = 1; j < size; j++) {
                    out.b[j - 1] ^= product(weight, x.b[i * size + j]);
                }
            }
            return out.n;
        }

        private static int weight(int t, int i, int size, Row x) {
            int above = 1;
            int below = 1;
            for (int j = 0; j < t; j++) {
                if (j != i) {
                    above = product(above, x.b[j * size]);
                    below = product(below, x.b[j * size] ^ x.b[i * size]);
                }
            }
            return product(above, inverse(below));
        }

        /** A share of numbers modulo q, or the pledge of them. */
        int pledged(int i, Row x, Row out) {
            if (i < 0 || i > 255 || x.n < 32 || x.n > 256 || x.n % 32 != 0) {
                return BAD;
            }
            for (int at = 0; at < x.n; at += 32) {
                boolean below = curve.below(x.b, at, k[0]);
                if (!below || i == 0 && Ring.isZero(k[0], curve.n)) {
                    return BAD;
                }
            }
            out.clear();
            if (i == 0) {
                for (int at = 0; at < x.n; at += 32) {
                    curve.below(x.b, at, k[0]);
                    curve.times(k[0], curve.base, a);
                    curve.encode(a, false, out);
                }
                return out.n;
            }
            Arrays.fill(k[1], 0);
            Arrays.fill(k[2], 0);
            k[2][0] = i;
            for (int at = x.n - 32; at >= 0; at -= 32) {
                curve.below(x.b, at, k[0]);
                curve.q.times(k[1], k[2], k[1]);
                curve.q.plus(k[1], k[0], k[1]);
            }
            curve.pushNumber(k[1], out);
            return out.n;
        }

        int fitted(int i, Row share, Row pledge) {
            boolean sizes = share.n == 32 && pledge.n >= 33 && pledge.n <= 264 && pledge.n % 33 == 0;
            if (i < 1 || i > 255 || !sizes || !curve.below(share.b, 0, k[0])) {
                return 0;
            }
            curve.none(a);
            Arrays.fill(k[1], 0);
            k[1][0] = i;
            for (int at = pledge.n - 33; at >= 0; at -= 33) {
                if (!curve.decode(pledge.b, at, 33, b)) {
                    return 0;
                }
                curve.times(k[1], a, a);
                curve.plus(a, b, a);
            }
            curve.times(k[0], curve.base, b);
            curve.turn(b);
            curve.plus(a, b, a);
            return curve.isNone(a) ? 1 : 0;
        }

        /** The second base is searched for once, when it is first needed. */
        private void needSecond() {
            for (int i = 0; i < 100000 && !ready; i++) {
                digest.start(Digest.SHA256, 0);
                digest.eatByte(i >>> 24);
                digest.eatByte(i >>> 16);
                digest.eatByte(i >>> 8);
                digest.eatByte(i);
                digest.eatText("second base");
                digest.finish(sum, 0);
                ready = curve.lift(sum, 0, 0, second);
            }
        }

        private boolean scalar(Row r, int at, long[] to) {
            return curve.below(r.b, at, to) && !Ring.isZero(to, curve.n);
        }

        /** Names a point in what is hashed; NONE can't be named. */
        private boolean name(long[][] point) {
            if (curve.isNone(point)) {
                return false;
            }
            curve.encode(point, false, text);
            return true;
        }

        private void challenge(long[] to) {
            digest.start(Digest.SHA256, 0);
            digest.eat(text.b, 0, text.n);
            digest.finish(sum, 0);
            Ring.load(sum, 0, 32, k[7]);
            curve.q.rest(k[7], curve.n, to);
        }

        /** to becomes x * P - y * Q; neither is to, and Q is changed. */
        private void side(long[] x, long[][] p, long[] y, long[][] q, long[][] to) {
            curve.times(x, p, to);
            curve.times(y, q, q);
            curve.turn(q);
            curve.plus(to, q, to);
        }

        int committed(Row v, Row r, Row out) {
            boolean sizes = v.n == 32 && r.n == 32;
            if (!sizes || !curve.below(v.b, 0, k[0]) || !scalar(r, 0, k[1])) {
                return BAD;
            }
            needSecond();
            curve.times(k[0], curve.base, a);
            curve.times(k[1], second, b);
            curve.plus(a, b, a);
            out.clear();
            return curve.encode(a, false, out);
        }

        int provenSame(Row secret, Row point, Row nonce, Row out) {
            boolean sizes = secret.n == 32 && nonce.n == 32;
            if (!sizes || !scalar(secret, 0, k[0]) || !scalar(nonce, 0, k[1])) {
                return BAD;
            }
            if (!curve.decode(point.b, 0, point.n, a) || curve.isNone(a)) {
                return WRONG;
            }
            text.clear();
            name(a);
            curve.times(k[0], curve.base, b);
            name(b);
            curve.times(k[0], a, b);
            name(b);
            curve.times(k[1], curve.base, b);
            name(b);
            curve.times(k[1], a, b);
            name(b);
            challenge(k[2]);
            curve.q.times(k[2], k[0], k[3]);
            curve.q.plus(k[3], k[1], k[3]);
            out.clear();
            curve.pushNumber(k[2], out);
            curve.pushNumber(k[3], out);
            return out.n;
        }

        int sameChecked(Row x, Row q, Row y, Row proof) {
            text.clear();
            if (proof.n != 64 || !curve.decode(q.b, 0, q.n, a) || !name(a)) {
                return 0;
            }
            if (!curve.decode(x.b, 0, x.n, b) || !name(b) || !curve.decode(y.b, 0, y.n, c) || !name(c)) {
                return 0;
            }
            if (!curve.below(proof.b, 0, k[0]) || !curve.below(proof.b, 32, k[1])) {
                return 0;
            }
            side(k[1], curve.base, k[0], b, d);
            side(k[1], a, k[0], c, e);
            if (!name(d) || !name(e)) {
                return 0;
            }
            challenge(k[2]);
            return Ring.compared(k[2], k[0], curve.n) == 0 ? 1 : 0;
        }

        /** c becomes the commitment less G so many times (0 or 1); it is in a. */
        private void lessBase(int times) {
            curve.copyPoint(a, c);
            if (times != 0) {
                curve.copyPoint(curve.base, b);
                curve.turn(b);
                curve.plus(c, b, c);
            }
        }

        /** k[0] is r, k[1] and k[2] are e and s of the other bit, k[3] is the nonce. */
        int provenBit(int v, Row x, Row out) {
            if (v < 0 || v > 1 || x.n != 128) {
                return BAD;
            }
            for (int i = 0; i < 4; i++) {
                if (!scalar(x, 32 * i, k[i])) {
                    return BAD;
                }
            }
            needSecond();
            curve.times(k[0], second, a);
            if (v == 1) {
                curve.plus(a, curve.base, a);
            }
            lessBase(1 - v);
            side(k[2], second, k[1], c, d);
            curve.times(k[3], second, e);
            text.clear();
            if (!name(a) || !name(v == 1 ? d : e) || !name(v == 1 ? e : d)) {
                return WRONG;
            }
            challenge(k[4]);
            curve.q.minus(k[4], k[1], k[4]);
            curve.q.times(k[4], k[0], k[5]);
            curve.q.plus(k[5], k[3], k[5]);
            out.clear();
            curve.pushNumber(v == 0 ? k[4] : k[1], out);
            curve.pushNumber(v == 0 ? k[5] : k[2], out);
            curve.pushNumber(v == 0 ? k[1] : k[4], out);
            curve.pushNumber(v == 0 ? k[2] : k[5], out);
            return out.n;
        }

        int bitChecked(Row commitment, Row proof) {
            text.clear();
            if (proof.n != 128 || !curve.decode(commitment.b, 0, commitment.n, a) || !name(a)) {
                return 0;
            }
            for (int i = 0; i < 4; i++) {
                if (!curve.below(proof.b, 32 * i, k[i])) {
                    return 0;
                }
            }
            needSecond();
            lessBase(0);
            side(k[1], second, k[0], c, d);
            lessBase(1);
            side(k[3], second, k[2], c, e);
            if (!name(d) || !name(e)) {
                return 0;
            }
            challenge(k[4]);
            curve.q.plus(k[0], k[2], k[5]);
            return Ring.compared(k[4], k[5], curve.n) == 0 ? 1 : 0;
        }
    }

    /** edwards25519 with its signatures, X25519, and signatures that several make together. */
    private static final class Edwards {
        private static final String P = "7fffffffffffffffffffffffffffffffffffffffffffffffffffffffffffffed";
        private static final String L = "1000000000000000000000000000000014def9dea2f79cd65812631a5cf5d3ed";
        private static final String D = "52036cee2b6ffe738cc740797779e89800700a4d4141d8ab75eb4dca135978a3";
        private static final String I = "2b8324804fc1df0b2b4d00993dfbd7a72f431806ad2fe478c4ee1b274a0ea0b0";
        private static final String X = "216936d3cd6e53fec0a4e231fdd6dc5c692cc7609525a7b2c9562d608f25d51a";
        private static final String Y = "6666666666666666666666666666666666666666666666666666666666666658";
        private static final String ROOT = "0ffffffffffffffffffffffffffffffffffffffffffffffffffffffffffffffd";
        private static final String JOINT = "FROST-ED25519-SHA512-v1";
        private static final int LIMBS = 10;

        private final Ring p = new Ring(LIMBS + 1);
        private final Ring l = new Ring(LIMBS + 1);
        private final long[] d = new long[LIMBS + 1];
        private final long[] d2 = new long[LIMBS + 1];
        private final long[] root = new long[LIMBS + 1];
        private final long[] rootPower = new long[LIMBS + 1];
        private final long[][] base = new long[4][LIMBS + 1];
        private final long[][] first = new long[4][LIMBS + 1];
        private final long[][] second = new long[4][LIMBS + 1];
        private final long[][] third = new long[4][LIMBS + 1];
        private final long[][] held = new long[4][LIMBS + 1];
        private final long[][] t = new long[12][LIMBS + 1];
        private final long[][] k = new long[8][24];
        private final Digest digest;
        private final int[] sum = new int[64];
        private final int[] code = new int[32];
        private final int[] prefix = new int[160];

        Edwards(Digest digest) {
            this.digest = digest;
            Ring.hex(P, t[0]);
            p.set(t[0], LIMBS);
            Ring.hex(L, t[0]);
            l.set(t[0], LIMBS);
            Ring.hex(D, d);
            p.enter(d, d);
            p.plus(d, d, d2);
            Ring.hex(I, root);
            p.enter(root, root);
            Ring.hex(ROOT, rootPower);
            Ring.hex(X, base[0]);
            Ring.hex(Y, base[1]);
            p.enter(base[0], base[0]);
            p.enter(base[1], base[1]);
            copy(p.one, base[2]);
            p.mul(base[0], base[1], base[3]);
        }

        private static void copy(long[] from, long[] to) {
            System.arraycopy(from, 0, to, 0, LIMBS);
        }

        private static void copyPoint(long[][] from, long[][] to) {
            for (int i = 0; i < 4; i++) {
                copy(from[i], to[i]);
            }
        }

        private void neutral(long[][] a) {
            Arrays.fill(a[0], 0);
            copy(p.one, a[1]);
            copy(p.one, a[2]);
            Arrays.fill(a[3], 0);
        }

        private boolean isNeutral(long[][] a) {
            return Ring.isZero(a[0], LIMBS) && Ring.compared(a[1], a[2], LIMBS) == 0;
        }

        private void turn(long[][] a) {
            p.negative(a[0], a[0]);
            p.negative(a[3], a[3]);
        }

        private void twice(long[][] a, long[][] to) {
            p.mul(a[0], a[0], t[0]);
            p.mul(a[1], a[1], t[1]);
            p.mul(a[2], a[2], t[2]);
            p.plus(t[2], t[2], t[2]);
            p.plus(a[0], a[1], t[3]);
            p.mul(t[3], t[3], t[3]);
            p.minus(t[3], t[0], t[3]);
            p.minus(t[3], t[1], t[3]);
            p.minus(t[1], t[0], t[4]);
            p.minus(t[4], t[2], t[5]);
            p.plus(t[0], t[1], t[6]);
            p.negative(t[6], t[6]);
            finishSum(to);
        }

        /** E, G, F and H stand in t[3] .. t[6]. */
        private void finishSum(long[][] to) {
            p.mul(t[3], t[5], to[0]);
            p.mul(t[4], t[6], to[1]);
            p.mul(t[3], t[6], to[3]);
            p.mul(t[5], t[4], to[2]);
        }

        private void plus(long[][] a, long[][] c, long[][] to) {
            p.minus(a[1], a[0], t[0]);
            p.minus(c[1], c[0], t[1]);
            p.mul(t[0], t[1], t[0]);
            p.plus(a[1], a[0], t[1]);
            p.plus(c[1], c[0], t[2]);
            p.mul(t[1], t[2], t[1]);
            p.mul(a[3], c[3], t[2]);
            p.mul(t[2], d2, t[2]);
            p.mul(a[2], c[2], t[7]);
            p.plus(t[7], t[7], t[7]);
            p.minus(t[1], t[0], t[3]);
            p.minus(t[7], t[2], t[5]);
            p.plus(t[7], t[2], t[4]);
            p.plus(t[1], t[0], t[6]);
            finishSum(to);
        }

        private void times(long[] number, long[][] a, long[][] to) {
            copyPoint(a, held);
            neutral(to);
            for (int i = Ring.bitsOf(number, LIMBS) - 1; i >= 0; i--) {
                twice(to, to);
                if (Ring.bit(number, i)) {
                    plus(to, held, to);
                }
            }
        }

        private void encode(long[][] a, int[] to, int at) {
            p.power(a[2], p.inverting, p.bits, t[0]);
            p.mul(a[0], t[0], t[1]);
            p.mul(a[1], t[0], t[2]);
            p.leave(t[1], t[1]);
            p.leave(t[2], t[2]);
            Ring.storeLittle(t[2], to, at, 32);
            to[at + 31] |= (int) (t[1][0] & 1) << 7;
        }

        private void pushPoint(long[][] a, Row out) {
            encode(a, code, 0);
            out.add(code, 0, 32);
        }

        private void pushNumber(long[] number, Row out) {
            for (int i = 0; i < 32; i++) {
                out.push(Ring.byteOf(number, i));
            }
        }

        private boolean decode(int[] from, int at, long[][] to) {
            Ring.loadLittle(from, at, 32, to[1]);
            int sign = from[at + 31] >> 7;
            to[1][9] &= 7;
            if (Ring.compared(to[1], p.m, LIMBS) >= 0) {
                return false;
            }
            p.enter(to[1], to[1]);
            copy(p.one, to[2]);
            p.mul(to[1], to[1], t[0]);
            p.mul(t[0], d, t[1]);
            p.minus(t[0], p.one, t[0]);
            p.plus(t[1], p.one, t[1]);
            p.mul(t[1], t[1], t[2]);
            p.mul(t[2], t[1], t[2]);
            p.mul(t[2], t[2], t[3]);
            p.mul(t[3], t[1], t[3]);
            p.mul(t[3], t[0], t[3]);
            p.power(t[3], rootPower, 252, to[0]);
            p.mul(to[0], t[2], to[0]);
            p.mul(to[0], t[0], to[0]);
            p.mul(to[0], to[0], t[2]);
            p.mul(t[2], t[1], t[2]);
            if (Ring.compared(t[2], t[0], LIMBS) != 0) {
                p.negative(t[0], t[0]);
                if (Ring.compared(t[2], t[0], LIMBS) != 0) {
                    return false;
                }
                p.mul(to[0], root, to[0]);
            }
            p.leave(to[0], t[3]);
            if (sign == 1 && Ring.isZero(t[3], LIMBS)) {
                return false;
            }
            if ((t[3][0] & 1) != sign) {
                p.negative(to[0], to[0]);
            }
            p.mul(to[0], to[1], to[3]);
            return true;
        }

        int pointed(int op, Row a, Row c, Row out) {
            if (op <= 1 && a.n > 32) {
                return BAD;
            }
            Row point = op == 1 ? c : a;
            boolean good = op == 0 || point.n == 32 && decode(point.b, 0, first);
            if (!good || op == 2 && !(c.n == 32 && decode(c.b, 0, second))) {
                return WRONG;
            }
            if (op <= 1) {
                Ring.loadLittle(a.b, 0, a.n, k[0]);
                times(k[0], op == 0 ? base : first, first);
            } else if (op == 2) {
                plus(first, second, first);
            } else if (op == 3) {
                turn(first);
            }
            out.clear();
            pushPoint(first, out);
            return out.n;
        }

        /** X25519 of a secret and a point; where there is no row for the point, of 9. */
        int exchanged(Row secret, Row point, Row out) {
            if (secret.n != 32 || point != null && point.n != 32) {
                return BAD;
            }
            Arrays.fill(code, 0);
            code[0] = 9;
            ladder(secret.b, point == null ? code : point.b, out);
            int all = 0;
            for (int i = 0; i < 32; i++) {
                all |= out.b[i];
            }
            return all == 0 ? WRONG : out.n;
        }

        private void ladder(int[] secret, int[] point, Row out) {
            Ring.loadLittle(secret, 0, 32, k[0]);
            k[0][0] &= ~7L;
            // 9 limbs hold 252 bits: 252, 253 and 254 stand in the last one.
            k[0][9] = k[0][9] & 7 | 4;
            Ring.loadLittle(point, 0, 32, t[0]);
            t[0][9] &= 7;
            p.enter(t[0], t[0]);
            copy(p.one, t[1]);
            Arrays.fill(t[2], 0);
            copy(t[0], t[3]);
            copy(p.one, t[4]);
            Arrays.fill(t[11], 0);
            t[11][0] = 121665;
            p.enter(t[11], t[11]);
            for (int i = 254; i >= 0; i--) {
                boolean swap = Ring.bit(k[0], i);
                int a = swap ? 3 : 1;
                int c = swap ? 1 : 3;
                ladderStep(t[a], t[a + 1], t[c], t[c + 1]);
            }
            p.power(t[2], p.inverting, p.bits, t[5]);
            p.mul(t[1], t[5], t[1]);
            p.leave(t[1], t[1]);
            out.clear();
            pushNumber(t[1], out);
        }

        private void ladderStep(long[] x2, long[] z2, long[] x3, long[] z3) {
            p.plus(x2, z2, t[5]);
            p.minus(x2, z2, t[6]);
            p.plus(x3, z3, t[7]);
            p.minus(x3, z3, t[8]);
            p.mul(t[8], t[5], t[8]);
            p.mul(t[7], t[6], t[7]);
            p.plus(t[8], t[7], t[9]);
            p.mul(t[9], t[9], x3);
            p.minus(t[8], t[7], t[9]);
            p.mul(t[9], t[9], t[9]);
            p.mul(t[9], t[0], z3);
            p.mul(t[5], t[5], t[5]);
            p.mul(t[6], t[6], t[6]);
            p.mul(t[5], t[6], x2);
            p.minus(t[5], t[6], t[6]);
            p.mul(t[6], t[11], t[10]);
            p.plus(t[5], t[10], t[5]);
            p.mul(t[6], t[5], z2);
        }

        /** The 64 bytes of a hash, the lowest first, modulo the order. */
        private void hashEnd(long[] to) {
            digest.finish(sum, 0);
            Ring.loadLittle(sum, 0, 64, k[7]);
            l.rest(k[7], 20, to);
        }

        /** The secret number of 32 bytes in k[0]; the second half of their hash stays in sum. */
        private void secretNumber(Row secret) {
            digest.start(Digest.SHA512, 0);
            digest.eat(secret.b, 0, secret.n);
            digest.finish(sum, 0);
            Ring.loadLittle(sum, 0, 32, k[0]);
            k[0][0] &= ~7L;
            k[0][9] = k[0][9] & 7 | 4;
        }

        int keyOf(Row secret, Row out) {
            if (secret.n != 32) {
                return BAD;
            }
            secretNumber(secret);
            times(k[0], base, first);
            out.clear();
            pushPoint(first, out);
            return out.n;
        }

        int signed(Row secret, Row x, Row out) {
            if (secret.n != 32) {
                return BAD;
            }
            secretNumber(secret);
            System.arraycopy(sum, 32, prefix, 0, 32);
            times(k[0], base, first);
            encode(first, prefix, 32);
            digest.start(Digest.SHA512, 0);
            digest.eat(prefix, 0, 32);
            digest.eat(x.b, 0, x.n);
            hashEnd(k[1]);
            times(k[1], base, first);
            out.clear();
            pushPoint(first, out);
            digest.start(Digest.SHA512, 0);
            digest.eat(out.b, 0, out.n);
            digest.eat(prefix, 32, 32);
            digest.eat(x.b, 0, x.n);
            hashEnd(k[2]);
            l.times(k[2], k[0], k[3]);
            l.plus(k[3], k[1], k[3]);
            pushNumber(k[3], out);
            return out.n;
        }

        private boolean belowOrder(int[] from, int at, long[] to) {
            Ring.loadLittle(from, at, 32, to);
            return Ring.compared(to, l.m, LIMBS) < 0;
        }

        int verified(Row key, Row x, Row signature) {
            if (key.n != 32 || signature.n != 64 || !belowOrder(signature.b, 32, k[0])) {
                return 0;
            }
            if (!decode(key.b, 0, first) || !decode(signature.b, 0, second)) {
                return 0;
            }
            digest.start(Digest.SHA512, 0);
            digest.eat(signature.b, 0, 32);
            digest.eat(key.b, 0, key.n);
            digest.eat(x.b, 0, x.n);
            hashEnd(k[1]);
            times(k[1], first, first);
            plus(first, second, first);
            turn(first);
            times(k[0], base, second);
            plus(first, second, first);
            for (int i = 0; i < 3; i++) {
                twice(first, first);
            }
            return isNeutral(first) ? 1 : 0;
        }

        private void startJoint(String name) {
            digest.start(Digest.SHA512, 0);
            digest.eatText(JOINT);
            digest.eatText(name);
        }

        int nonces(Row secret, Row random, Row out) {
            if (secret.n != 32 || random.n != 64) {
                return BAD;
            }
            out.clear();
            for (int i = 0; i < 2; i++) {
                startJoint("nonce");
                digest.eat(random.b, 32 * i, 32);
                digest.eat(secret.b, 0, secret.n);
                hashEnd(k[i]);
                pushNumber(k[i], out);
            }
            for (int i = 0; i < 2; i++) {
                times(k[i], base, first);
                pushPoint(first, out);
            }
            return out.n;
        }

        /** Whether a list has the form and the order that it must have. */
        private static boolean isList(Row list) {
            if (list.n == 0 || list.n % 65 != 0) {
                return false;
            }
            int last = 0;
            for (int at = 0; at < list.n; at += 65) {
                if (list.b[at] <= last) {
                    return false;
                }
                last = list.b[at];
            }
            return true;
        }

        /** An identifier as a number of 32 bytes, the lowest first, comes into the hash. */
        private void eatIdentifier(int i) {
            digest.eatByte(i);
            for (int j = 1; j < 32; j++) {
                digest.eatByte(0);
            }
        }

        /** What every binding factor is hashed from: the key, the hash of the text, that of the list. */
        private void fillPrefix(Row key, Row list, Row x) {
            System.arraycopy(key.b, 0, prefix, 0, 32);
            startJoint("msg");
            digest.eat(x.b, 0, x.n);
            digest.finish(prefix, 32);
            startJoint("com");
            for (int at = 0; at < list.n; at += 65) {
                eatIdentifier(list.b[at]);
                digest.eat(list.b, at + 1, 64);
            }
            digest.finish(prefix, 96);
        }

        private void factor(int i, long[] to) {
            startJoint("rho");
            digest.eat(prefix, 0, 160);
            eatIdentifier(i);
            hashEnd(to);
        }

        /** third becomes the joint commitment, k[2] the challenge; false if a point is none or neutral. */
        private boolean commitment(Row key, Row list, Row x) {
            if (!decode(key.b, 0, first) || isNeutral(first)) {
                return false;
            }
            fillPrefix(key, list, x);
            neutral(third);
            for (int at = 0; at < list.n; at += 65) {
                if (!decode(list.b, at + 1, first) || isNeutral(first)) {
                    return false;
                }
                plus(third, first, third);
                if (!decode(list.b, at + 33, first) || isNeutral(first)) {
                    return false;
                }
                factor(list.b[at], k[2]);
                times(k[2], first, first);
                plus(third, first, third);
            }
            encode(third, code, 0);
            digest.start(Digest.SHA512, 0);
            digest.eat(code, 0, 32);
            digest.eat(key.b, 0, key.n);
            digest.eat(x.b, 0, x.n);
            hashEnd(k[2]);
            return true;
        }

        /** to becomes Lagrange's factor at 0 of a signer among those of the list. */
        private void weight(int i, Row list, long[] to) {
            Arrays.fill(to, 0);
            to[0] = 1;
            Arrays.fill(k[4], 0);
            k[4][0] = 1;
            Arrays.fill(k[5], 0);
            for (int at = 0; at < list.n; at += 65) {
                int j = list.b[at];
                if (j != i) {
                    k[5][0] = j;
                    l.times(to, k[5], to);
                    k[5][0] = Math.abs(j - i);
                    l.times(k[4], k[5], k[4]);
                    if (j < i) {
                        l.negative(k[4], k[4]);
                    }
                }
            }
            l.enter(k[4], k[4]);
            l.power(k[4], l.inverting, l.bits, k[5]);
            l.mul(to, k[5], to);
        }

        int jointShared(int i, Row secret, Row nonces, Row key, Row list, Row x, Row out) {
            boolean sizes = i >= 1 && i <= 255 && secret.n == 32 && nonces.n == 128 && key.n == 32;
            if (!sizes || !isList(list)) {
                return BAD;
            }
            boolean there = false;
            for (int at = 0; at < list.n; at += 65) {
                there |= list.b[at] == i;
            }
            if (!there) {
                return BAD;
            }
            if (!commitment(key, list, x)) {
                return WRONG;
            }
            weight(i, list, k[3]);
            loadRest(secret.b, 0, k[0]);
            l.times(k[3], k[0], k[3]);
            l.times(k[3], k[2], k[3]);
            loadRest(nonces.b, 0, k[0]);
            l.plus(k[3], k[0], k[3]);
            loadRest(nonces.b, 32, k[0]);
            factor(i, k[1]);
            l.times(k[0], k[1], k[0]);
            l.plus(k[3], k[0], k[3]);
            out.clear();
            pushNumber(k[3], out);
            return out.n;
        }

        private void loadRest(int[] from, int at, long[] to) {
            Ring.loadLittle(from, at, 32, k[7]);
            l.rest(k[7], LIMBS, to);
        }

        int jointSigned(Row list, Row shares, Row key, Row x, Row out) {
            if (!isList(list) || key.n != 32 || shares.n != list.n / 65 * 32) {
                return BAD;
            }
            Arrays.fill(k[0], 0);
            for (int at = 0; at < shares.n; at += 32) {
                if (!belowOrder(shares.b, at, k[1])) {
                    return BAD;
                }
                l.plus(k[0], k[1], k[0]);
            }
            if (!commitment(key, list, x)) {
                return WRONG;
            }
            out.clear();
            out.add(code, 0, 32);
            pushNumber(k[0], out);
            return out.n;
        }
    }

    /** ML-KEM and ML-DSA: polynomials of 256 numbers modulo 3329 and modulo 8380417. */
    private static final class Lattice {
        private static final int N = 256;
        private static final int KEM_Q = 3329;
        private static final int Q = 8380417;
        private static final int LOW_BITS = 13;
        private static final int TRIES = 814;
        private static final int[] ROWS_OF = {4, 6, 8};
        private static final int[] COLUMNS_OF = {4, 5, 7};
        private static final int[] ETA = {2, 4, 2};
        private static final int[] TAU = {39, 49, 60};
        private static final int[] OMEGA = {80, 55, 75};
        /** Where the polynomials of each name begin in the pool. */
        private static final int S1 = 56;
        private static final int S2 = 63;
        private static final int T0 = 71;
        private static final int Y = 79;
        private static final int W = 86;
        private static final int Z = 94;
        private static final int HINT = 101;
        private static final int C = 109;
        private static final int ONE = 110;
        private static final int VECTOR = 64;
        private static final int OTHER = 68;
        private static final int NOISE = 72;

        private final Digest digest;
        private final int[][] pool = new int[111][N];
        private final int[] kemTurns = new int[128];
        private final int[] turns = new int[N];
        private final int[] seed = new int[128];
        private final int[] message = new int[64];
        private final int[] drawn = new int[640];
        private final int[] packed = new int[1024];
        private final Row held = new Row(1600);
        private int k;
        private int l;
        private int eta;
        private int gamma1;
        private int gamma2;
        private int bits;
        private int code;
        private int packing;

        Lattice(Digest digest) {
            this.digest = digest;
            fillTurns(kemTurns, 7, 17, KEM_Q);
            fillTurns(turns, 8, 1753, Q);
        }

        /** The powers of a root, in the order of their places' bits turned round. */
        private static void fillTurns(int[] to, int bits, int root, int q) {
            long power = 1;
            for (int i = 0; i < to.length; i++) {
                int place = 0;
                for (int b = 0; b < bits; b++) {
                    place = place << 1 | i >> b & 1;
                }
                to[place] = (int) power;
                power = power * root % q;
            }
        }

        /** Packs numbers of so many bits, the lowest first; how many bytes. */
        private static int pack(int[] a, int width, int[] to, int at) {
            int have = 0;
            int waiting = 0;
            int n = at;
            for (int i = 0; i < N; i++) {
                waiting |= a[i] << have;
                have += width;
                for (int b = 0; b < 4 && have >= 8; b++) {
                    to[n] = waiting & 255;
                    n++;
                    waiting >>>= 8;
                    have -= 8;
                }
            }
            return n - at;
        }

        private static void unpack(int[] from, int at, int width, int[] a) {
            int have = 0;
            int waiting = 0;
            int n = at;
            for (int i = 0; i < N; i++) {
                for (int b = 0; b < 4 && have < width; b++) {
                    waiting |= from[n] << have;
                    n++;
                    have += 8;
                }
                a[i] = waiting & (1 << width) - 1;
                waiting >>>= width;
                have -= width;
            }
        }

        // ---- ML-KEM

        static int sealingSize(int kind) {
            return 384 * (kind + 2) + 32;
        }

        static int openingSize(int kind) {
            return 768 * (kind + 2) + 96;
        }

        private static int wide(int kind) {
            return kind == 2 ? 11 : 10;
        }

        private static int narrow(int kind) {
            return kind == 2 ? 5 : 4;
        }

        static int capsuleSize(int kind) {
            return 32 * (wide(kind) * (kind + 2) + narrow(kind));
        }

        private void kemForward(int[] f) {
            int z = 1;
            for (int len = 128; len >= 2; len >>= 1) {
                for (int start = 0; start < N; start += 2 * len) {
                    int turn = kemTurns[z];
                    z++;
                    for (int j = start; j < start + len; j++) {
                        int t = turn * f[j + len] % KEM_Q;
                        f[j + len] = f[j] - t < 0 ? f[j] - t + KEM_Q : f[j] - t;
                        f[j] = f[j] + t >= KEM_Q ? f[j] + t - KEM_Q : f[j] + t;
                    }
                }
            }
        }

        private void kemBack(int[] f) {
            int z = 127;
            for (int len = 2; len <= 128; len <<= 1) {
                for (int start = 0; start < N; start += 2 * len) {
                    int turn = kemTurns[z];
                    z--;
                    for (int j = start; j < start + len; j++) {
                        int t = f[j];
                        f[j] = (t + f[j + len]) % KEM_Q;
                        f[j + len] = turn * (f[j + len] - t + KEM_Q) % KEM_Q;
                    }
                }
            }
            for (int j = 0; j < N; j++) {
                f[j] = f[j] * 3303 % KEM_Q;
            }
        }

        /** Adds the product of two turned polynomials to a third. */
        private void kemMultiply(int[] f, int[] g, int[] to) {
            for (int i = 0; i < 128; i++) {
                int turn = kemTurns[64 + (i >> 1)];
                int gamma = (i & 1) == 0 ? turn : KEM_Q - turn;
                int a = f[2 * i];
                int b = f[2 * i + 1];
                int c = g[2 * i];
                int d = g[2 * i + 1];
                to[2 * i] = (to[2 * i] + a * c + b * d % KEM_Q * gamma) % KEM_Q;
                to[2 * i + 1] = (to[2 * i + 1] + a * d + b * c) % KEM_Q;
            }
        }

        private void kemMatrix(int[] rho, int at, int column, int row, int[] to) {
            digest.start(Digest.SHAKE128, 0);
            digest.eat(rho, at, 32);
            digest.eatByte(column);
            digest.eatByte(row);
            digest.endInput();
            int n = 0;
            for (int i = 0; i < 1000000 && n < N; i++) {
                int a = digest.next();
                int b = digest.next();
                int c = digest.next();
                int d1 = a | (b & 15) << 8;
                int d2 = b >> 4 | c << 4;
                if (d1 < KEM_Q) {
                    to[n] = d1;
                    n++;
                }
                if (d2 < KEM_Q && n < N) {
                    to[n] = d2;
                    n++;
                }
            }
        }

        /** A polynomial of small numbers from 32 bytes of the seed and a byte. */
        private void kemNoise(int at, int number, int spread, int[] to) {
            digest.start(Digest.SHAKE256, 0);
            digest.eat(seed, at, 32);
            digest.eatByte(number);
            digest.endInput();
            int have = 0;
            int waiting = 0;
            for (int i = 0; i < N; i++) {
                if (have < 2 * spread) {
                    waiting |= digest.next() << have;
                    have += 8;
                }
                int v = 0;
                for (int b = 0; b < spread; b++) {
                    v += (waiting >> b & 1) - (waiting >> spread + b & 1);
                }
                to[i] = v < 0 ? v + KEM_Q : v;
                waiting >>>= 2 * spread;
                have -= 2 * spread;
            }
        }

        /** The keys from d and z: the sealing one in sealing, the opening one in opening. */
        int kemKeys(int kind, Row seeds, Row sealing, Row opening) {
            if (seeds.n != 64) {
                return BAD;
            }
            int n = kind + 2;
            int spread = kind == 0 ? 3 : 2;
            digest.start(Digest.SHA3_512, 0);
            digest.eat(seeds.b, 0, 32);
            digest.eatByte(n);
            digest.finish(seed, 0);
            for (int i = 0; i < n; i++) {
                kemNoise(32, i, spread, pool[VECTOR + i]);
                kemForward(pool[VECTOR + i]);
                pack(pool[VECTOR + i], 12, opening.b, 384 * i);
            }
            for (int i = 0; i < n; i++) {
                kemNoise(32, n + i, spread, pool[OTHER]);
                kemForward(pool[OTHER]);
                for (int j = 0; j < n; j++) {
                    kemMatrix(seed, 0, j, i, pool[0]);
                    kemMultiply(pool[0], pool[VECTOR + j], pool[OTHER]);
                }
                pack(pool[OTHER], 12, sealing.b, 384 * i);
            }
            System.arraycopy(seed, 0, sealing.b, 384 * n, 32);
            sealing.n = sealingSize(kind);
            opening.n = 384 * n;
            opening.add(sealing.b, 0, sealing.n);
            digest.start(Digest.SHA3_256, 0);
            digest.eat(sealing.b, 0, sealing.n);
            digest.finish(seed, 0);
            opening.add(seed, 0, 32);
            opening.add(seeds.b, 32, 32);
            return sealing.n;
        }

        /** Seals message for the key at a place, with the randomness that stands in seed from 32 on. */
        private void kemSeal(int kind, int[] key, int at, Row out) {
            int n = kind + 2;
            int du = wide(kind);
            int dv = narrow(kind);
            for (int i = 0; i < n; i++) {
                kemNoise(32, i, kind == 0 ? 3 : 2, pool[VECTOR + i]);
                kemForward(pool[VECTOR + i]);
            }
            int[] sum = pool[OTHER];
            for (int i = 0; i < n; i++) {
                Arrays.fill(sum, 0);
                for (int j = 0; j < n; j++) {
                    kemMatrix(key, at + 384 * n, i, j, pool[0]);
                    kemMultiply(pool[0], pool[VECTOR + j], sum);
                }
                kemBack(sum);
                kemNoise(32, n + i, 2, pool[NOISE]);
                kemPress(sum, du, out.b, 32 * du * i);
            }
            Arrays.fill(sum, 0);
            for (int i = 0; i < n; i++) {
                unpack(key, at + 384 * i, 12, pool[0]);
                for (int j = 0; j < N; j++) {
                    pool[0][j] %= KEM_Q;
                }
                kemMultiply(pool[0], pool[VECTOR + i], sum);
            }
            kemBack(sum);
            kemNoise(32, 2 * n, 2, pool[NOISE]);
            for (int j = 0; j < N; j++) {
                sum[j] += (message[j >> 3] >> (j & 7) & 1) * 1665;
            }
            kemPress(sum, dv, out.b, 32 * du * n);
            out.n = capsuleSize(kind);
        }

        /** A polynomial and the noise, rounded to so many bits each. */
        private void kemPress(int[] f, int width, int[] to, int at) {
            for (int j = 0; j < N; j++) {
                int v = (f[j] + pool[NOISE][j]) % KEM_Q;
                f[j] = ((v << width) + KEM_Q / 2) / KEM_Q & (1 << width) - 1;
            }
            pack(f, width, to, at);
        }

        private static void kemStretch(int[] f, int width) {
            for (int j = 0; j < N; j++) {
                f[j] = f[j] * KEM_Q + (1 << width - 1) >> width;
            }
        }

        private void kemHash(int[] from, int at, int len, int[] to, int into) {
            digest.start(Digest.SHA3_256, 0);
            digest.eat(from, at, len);
            digest.finish(to, into);
        }

        /** seed becomes the shared bytes and the randomness for message and a hash of the key. */
        private void kemSecrets(int[] keyHash, int at) {
            digest.start(Digest.SHA3_512, 0);
            digest.eat(message, 0, 32);
            digest.eat(keyHash, at, 32);
            digest.finish(seed, 0);
        }

        int kemSealed(int kind, Row key, Row m, Row out, Row shared) {
            if (key.n != sealingSize(kind) || m.n != 32) {
                return BAD;
            }
            for (int i = 0; i < kind + 2; i++) {
                unpack(key.b, 384 * i, 12, pool[0]);
                for (int j = 0; j < N; j++) {
                    if (pool[0][j] >= KEM_Q) {
                        return WRONG;
                    }
                }
            }
            System.arraycopy(m.b, 0, message, 0, 32);
            kemHash(key.b, 0, key.n, packed, 0);
            kemSecrets(packed, 0);
            kemSeal(kind, key.b, 0, out);
            shared.clear();
            shared.add(seed, 0, 32);
            return out.n;
        }

        int kemOpened(int kind, Row key, Row capsule, Row out) {
            int n = kind + 2;
            int size = sealingSize(kind);
            if (key.n != openingSize(kind) || capsule.n != capsuleSize(kind)) {
                return BAD;
            }
            kemHash(key.b, 384 * n, size, packed, 0);
            if (!key.same(packed, 0, 384 * n + size, 32)) {
                return WRONG;
            }
            kemMessage(kind, key, capsule);
            kemSecrets(packed, 0);
            kemSeal(kind, key.b, 384 * n, held);
            out.clear();
            if (held.same(capsule.b, 0, 0, capsule.n)) {
                out.add(seed, 0, 32);
            } else {
                digest.start(Digest.SHAKE256, 32);
                digest.eat(key.b, key.n - 32, 32);
                digest.eat(capsule.b, 0, capsule.n);
                digest.finish(packed, 0);
                out.add(packed, 0, 32);
            }
            return out.n;
        }

        private void kemMessage(int kind, Row key, Row capsule) {
            int n = kind + 2;
            int du = wide(kind);
            int[] sum = pool[OTHER];
            Arrays.fill(sum, 0);
            for (int i = 0; i < n; i++) {
                unpack(capsule.b, 32 * du * i, du, pool[0]);
                kemStretch(pool[0], du);
                kemForward(pool[0]);
                unpack(key.b, 384 * i, 12, pool[1]);
                for (int j = 0; j < N; j++) {
                    pool[1][j] %= KEM_Q;
                }
                kemMultiply(pool[0], pool[1], sum);
            }
            kemBack(sum);
            unpack(capsule.b, 32 * du * n, narrow(kind), pool[0]);
            kemStretch(pool[0], narrow(kind));
            Arrays.fill(message, 0);
            for (int j = 0; j < N; j++) {
                int v = (pool[0][j] - sum[j] + KEM_Q) % KEM_Q;
                int bit = (2 * v + KEM_Q / 2) / KEM_Q & 1;
                message[j >> 3] |= bit << (j & 7);
            }
        }

        // ---- ML-DSA

        private void choose(int kind) {
            k = ROWS_OF[kind];
            l = COLUMNS_OF[kind];
            eta = ETA[kind];
            gamma1 = kind == 0 ? 1 << 17 : 1 << 19;
            gamma2 = kind == 0 ? (Q - 1) / 88 : (Q - 1) / 32;
            bits = kind == 0 ? 18 : 20;
            code = 32 + 16 * kind;
            packing = eta == 2 ? 3 : 4;
        }

        static int openSize(int kind) {
            return 32 + 320 * ROWS_OF[kind];
        }

        static int secretSize(int kind) {
            int small = ETA[kind] == 2 ? 96 : 128;
            return 128 + small * (ROWS_OF[kind] + COLUMNS_OF[kind]) + 416 * ROWS_OF[kind];
        }

        static int signatureSize(int kind) {
            return 32 + 16 * kind + COLUMNS_OF[kind] * (kind == 0 ? 576 : 640) + OMEGA[kind] + ROWS_OF[kind];
        }

        private void forward(int[] f) {
            int z = 0;
            for (int len = 128; len >= 1; len >>= 1) {
                for (int start = 0; start < N; start += 2 * len) {
                    z++;
                    long turn = turns[z];
                    for (int j = start; j < start + len; j++) {
                        int t = (int) (turn * f[j + len] % Q);
                        int v = f[j] - t;
                        f[j + len] = v < 0 ? v + Q : v;
                        v = f[j] + t;
                        f[j] = v >= Q ? v - Q : v;
                    }
                }
            }
        }

        private void inverse(int[] f) {
            int z = N;
            for (int len = 1; len < N; len <<= 1) {
                for (int start = 0; start < N; start += 2 * len) {
                    z--;
                    long turn = turns[z];
                    for (int j = start; j < start + len; j++) {
                        int t = f[j];
                        int v = t + f[j + len];
                        f[j] = v >= Q ? v - Q : v;
                        f[j + len] = (int) (turn * (f[j + len] - t + Q) % Q);
                    }
                }
            }
            for (int j = 0; j < N; j++) {
                f[j] = (int) (8347681L * f[j] % Q);
            }
        }

        private static void multiply(int[] f, int[] g, int[] to) {
            for (int j = 0; j < N; j++) {
                to[j] = (int) ((long) f[j] * g[j] % Q);
            }
        }

        /** A row of the matrix times the turned polynomials from a place on. */
        private void rowTimes(int row, int from, int[] to) {
            for (int j = 0; j < N; j++) {
                long sum = 0;
                for (int i = 0; i < l; i++) {
                    sum += (long) pool[row * l + i][j] * pool[from + i][j];
                }
                to[j] = (int) (sum % Q);
            }
        }

        private void matrix(int[] rho, int at) {
            for (int r = 0; r < k; r++) {
                for (int s = 0; s < l; s++) {
                    digest.start(Digest.SHAKE128, 0);
                    digest.eat(rho, at, 32);
                    digest.eatByte(s);
                    digest.eatByte(r);
                    digest.endInput();
                    int[] a = pool[r * l + s];
                    int n = 0;
                    for (int i = 0; i < 1000000 && n < N; i++) {
                        int v = digest.next() | digest.next() << 8 | (digest.next() & 127) << 16;
                        if (v < Q) {
                            a[n] = v;
                            n++;
                        }
                    }
                }
            }
        }

        /** Small numbers from 64 bytes of the seed, as eta less number, which is how they are packed. */
        private void small(int number, int[] to) {
            digest.start(Digest.SHAKE256, 0);
            digest.eat(seed, 32, 64);
            digest.eatByte(number);
            digest.eatByte(0);
            digest.endInput();
            int n = 0;
            for (int i = 0; i < 1000000 && n < N; i++) {
                int both = digest.next();
                n = putSmall(both & 15, n, to);
                n = putSmall(both >> 4, n, to);
            }
        }

        private int putSmall(int v, int n, int[] to) {
            if (n >= N || v >= (eta == 2 ? 15 : 9)) {
                return n;
            }
            to[n] = eta == 2 ? v % 5 : v;
            return n + 1;
        }

        private void fromSmall(int[] f) {
            subtractAll(eta, f);
        }

        /** Each number becomes what it is less than a bound, modulo q. */
        private static void subtractAll(int from, int[] f) {
            for (int j = 0; j < N; j++) {
                int v = from - f[j];
                f[j] = v < 0 ? v + Q : v;
            }
        }

        /** The number nearest 0 that is the same modulo q. */
        private static int centred(int v) {
            return v > Q / 2 ? v - Q : v;
        }

        private int highBits(int v) {
            int r = (v + gamma2 - 1) / (2 * gamma2);
            return r == (Q - 1) / (2 * gamma2) ? 0 : r;
        }

        private int lowBits(int v) {
            int high = highBits(v);
            int low = v - high * 2 * gamma2;
            return low > Q / 2 ? low - Q : low;
        }

        int dsaKeys(int kind, Row from, Row open, Row secret) {
            if (from.n != 32) {
                return BAD;
            }
            choose(kind);
            digest.start(Digest.SHAKE256, 128);
            digest.eat(from.b, 0, from.n);
            digest.eatByte(k);
            digest.eatByte(l);
            digest.finish(seed, 0);
            matrix(seed, 0);
            secret.clear();
            secret.add(seed, 0, 32);
            secret.add(seed, 96, 32);
            secret.n = 128;
            for (int i = 0; i < l + k; i++) {
                int[] s = pool[i < l ? S1 + i : S2 + i - l];
                small(i, s);
                secret.n += pack(s, packing, secret.b, secret.n);
                fromSmall(s);
                if (i < l) {
                    forward(s);
                }
            }
            open.clear();
            open.add(seed, 0, 32);
            for (int i = 0; i < k; i++) {
                splitKey(i, open, secret);
            }
            digest.start(Digest.SHAKE256, 64);
            digest.eat(open.b, 0, open.n);
            digest.finish(secret.b, 64);
            return open.n;
        }

        /** One polynomial of t: its high part goes to the open key, its low one to the secret. */
        private void splitKey(int i, Row open, Row secret) {
            int[] t = pool[W];
            int[] low = pool[ONE];
            rowTimes(i, S1, t);
            inverse(t);
            int half = 1 << LOW_BITS - 1;
            for (int j = 0; j < N; j++) {
                int v = (t[j] + pool[S2 + i][j]) % Q;
                t[j] = v + half - 1 >> LOW_BITS;
                low[j] = half - (v - (t[j] << LOW_BITS));
            }
            open.n += pack(t, 10, open.b, open.n);
            secret.n += pack(low, LOW_BITS, secret.b, secret.n);
        }

        /** message becomes the hash of the open key's hash, the context and the text. */
        private void messageHash(int[] keyHash, int at, Row x, Row context) {
            digest.start(Digest.SHAKE256, 64);
            digest.eat(keyHash, at, 64);
            digest.eatByte(0);
            digest.eatByte(context.n);
            digest.eat(context.b, 0, context.n);
            digest.eat(x.b, 0, x.n);
            digest.finish(message, 0);
        }

        int dsaSigned(int kind, Row secret, Row x, Row context, Row help, Row out) {
            if (secret.n != secretSize(kind) || context.n > 255 || help.n != 32) {
                return BAD;
            }
            choose(kind);
            matrix(secret.b, 0);
            int at = 128;
            for (int i = 0; i < l + k; i++) {
                int[] s = pool[i < l ? S1 + i : S2 + i - l];
                unpack(secret.b, at, packing, s);
                fromSmall(s);
                forward(s);
                at += 32 * packing;
            }
            for (int i = 0; i < k; i++) {
                unpack(secret.b, at, LOW_BITS, pool[T0 + i]);
                subtractAll(1 << LOW_BITS - 1, pool[T0 + i]);
                forward(pool[T0 + i]);
                at += 32 * LOW_BITS;
            }
            messageHash(secret.b, 64, x, context);
            digest.start(Digest.SHAKE256, 64);
            digest.eat(secret.b, 32, 32);
            digest.eat(help.b, 0, help.n);
            digest.eat(message, 0, 64);
            digest.finish(seed, 0);
            for (int i = 0; i < TRIES; i++) {
                if (trySign(i * l)) {
                    return writeSignature(kind, out);
                }
            }
            return WRONG;
        }

        private void mask(int number, int[] to) {
            digest.start(Digest.SHAKE256, 32 * bits);
            digest.eat(seed, 0, 64);
            digest.eatByte(number);
            digest.eatByte(number >> 8);
            digest.finish(drawn, 0);
            unpack(drawn, 0, bits, to);
            subtractAll(gamma1, to);
        }

        /** The hash of message and of the high parts of the W's goes to packed. */
        private void challenge() {
            digest.start(Digest.SHAKE256, code);
            digest.eat(message, 0, 64);
            for (int i = 0; i < k; i++) {
                int len = pack(pool[W + i], gamma2 == (Q - 1) / 88 ? 6 : 4, drawn, 0);
                digest.eat(drawn, 0, len);
            }
            digest.finish(packed, 0);
        }

        /** The polynomial with a few numbers 1 and -1 that a challenge at a place tells, turned. */
        private void ball(int kind, int[] from, int at) {
            int[] c = pool[C];
            Arrays.fill(c, 0);
            digest.start(Digest.SHAKE256, 0);
            digest.eat(from, at, code);
            digest.endInput();
            long signs = 0;
            for (int i = 0; i < 8; i++) {
                signs |= (long) digest.next() << 8 * i;
            }
            int tries = 0;
            for (int i = N - TAU[kind]; i < N; i++) {
                int j = digest.next();
                for (; j > i && tries < 1000000; tries++) {
                    j = digest.next();
                }
                c[i] = c[j];
                c[j] = (signs & 1) == 0 ? 1 : Q - 1;
                signs >>>= 1;
            }
            forward(c);
        }

        /** One try with the masks from a number on; Z and HINT hold what comes, packed the challenge. */
        private boolean trySign(int number) {
            int kind = code / 16 - 2;
            for (int i = 0; i < l; i++) {
                mask(number + i, pool[Y + i]);
                System.arraycopy(pool[Y + i], 0, pool[Z + i], 0, N);
                forward(pool[Z + i]);
            }
            for (int i = 0; i < k; i++) {
                rowTimes(i, Z, pool[HINT + i]);
                inverse(pool[HINT + i]);
                for (int j = 0; j < N; j++) {
                    pool[W + i][j] = highBits(pool[HINT + i][j]);
                }
            }
            challenge();
            ball(kind, packed, 0);
            int beta = TAU[kind] * eta;
            for (int i = 0; i < l; i++) {
                multiply(pool[C], pool[S1 + i], pool[Z + i]);
                inverse(pool[Z + i]);
                addAll(pool[Y + i], pool[Z + i]);
                if (reaches(pool[Z + i], gamma1 - beta)) {
                    return false;
                }
            }
            return hints(beta, OMEGA[kind]);
        }

        private static void addAll(int[] f, int[] to) {
            for (int j = 0; j < N; j++) {
                int v = to[j] + f[j];
                to[j] = v >= Q ? v - Q : v;
            }
        }

        /** Whether a number of it is so far from 0, or farther. */
        private static boolean reaches(int[] f, int bound) {
            boolean far = false;
            for (int j = 0; j < N; j++) {
                far |= Math.abs(centred(f[j])) >= bound;
            }
            return far;
        }

        /** HINT holds the W's at first, then 1 where the low part of the key changes the high one. */
        private boolean hints(int beta, int most) {
            int[] part = pool[ONE];
            for (int i = 0; i < k; i++) {
                int[] w = pool[HINT + i];
                multiply(pool[C], pool[S2 + i], part);
                inverse(part);
                for (int j = 0; j < N; j++) {
                    int v = w[j] - part[j];
                    w[j] = v < 0 ? v + Q : v;
                    if (Math.abs(lowBits(w[j])) >= gamma2 - beta) {
                        return false;
                    }
                }
            }
            int ones = 0;
            for (int i = 0; i < k; i++) {
                int[] w = pool[HINT + i];
                multiply(pool[C], pool[T0 + i], part);
                inverse(part);
                if (reaches(part, gamma2)) {
                    return false;
                }
                for (int j = 0; j < N; j++) {
                    w[j] = highBits(w[j]) != highBits((w[j] + part[j]) % Q) ? 1 : 0;
                    ones += w[j];
                }
            }
            return ones <= most;
        }

        private int writeSignature(int kind, Row out) {
            out.zeros(signatureSize(kind));
            System.arraycopy(packed, 0, out.b, 0, code);
            int at = code;
            for (int i = 0; i < l; i++) {
                subtractAll(gamma1, pool[Z + i]);
                at += pack(pool[Z + i], bits, out.b, at);
            }
            int n = 0;
            for (int i = 0; i < k; i++) {
                for (int j = 0; j < N; j++) {
                    if (pool[HINT + i][j] != 0 && n < OMEGA[kind]) {
                        out.b[at + n] = j;
                        n++;
                    }
                }
                out.b[at + OMEGA[kind] + i] = n;
            }
            return out.n;
        }

        private boolean readHints(int kind, int[] from, int at) {
            int most = OMEGA[kind];
            int n = 0;
            for (int i = 0; i < k; i++) {
                Arrays.fill(pool[HINT + i], 0);
                int end = from[at + most + i];
                if (end < n || end > most) {
                    return false;
                }
                for (int j = n; j < end; j++) {
                    if (j > n && from[at + j - 1] >= from[at + j]) {
                        return false;
                    }
                    pool[HINT + i][from[at + j]] = 1;
                }
                n = end;
            }
            for (int j = n; j < most; j++) {
                if (from[at + j] != 0) {
                    return false;
                }
            }
            return true;
        }

        int dsaVerified(int kind, Row open, Row x, Row context, Row signature) {
            if (open.n != openSize(kind) || signature.n != signatureSize(kind) || context.n > 255) {
                return 0;
            }
            choose(kind);
            int at = code + 32 * bits * l;
            if (!readHints(kind, signature.b, at)) {
                return 0;
            }
            int beta = TAU[kind] * eta;
            for (int i = 0; i < l; i++) {
                unpack(signature.b, code + 32 * bits * i, bits, pool[Z + i]);
                subtractAll(gamma1, pool[Z + i]);
                if (reaches(pool[Z + i], gamma1 - beta)) {
                    return 0;
                }
                forward(pool[Z + i]);
            }
            matrix(open.b, 0);
            digest.start(Digest.SHAKE256, 64);
            digest.eat(open.b, 0, open.n);
            digest.finish(seed, 0);
            messageHash(seed, 0, x, context);
            ball(kind, signature.b, 0);
            for (int i = 0; i < k; i++) {
                approximate(i, open);
            }
            challenge();
            return signature.same(packed, 0, 0, code) ? 1 : 0;
        }

        /** One polynomial W as it was signed, from the open key, the Z's and the hints. */
        private void approximate(int i, Row open) {
            int[] w = pool[W + i];
            int[] t = pool[ONE];
            unpack(open.b, 32 + 320 * i, 10, t);
            for (int j = 0; j < N; j++) {
                t[j] <<= LOW_BITS;
            }
            forward(t);
            multiply(pool[C], t, t);
            rowTimes(i, Z, w);
            for (int j = 0; j < N; j++) {
                w[j] = w[j] < t[j] ? w[j] - t[j] + Q : w[j] - t[j];
            }
            inverse(w);
            int count = (Q - 1) / (2 * gamma2);
            for (int j = 0; j < N; j++) {
                int high = highBits(w[j]);
                if (pool[HINT + i][j] != 0) {
                    high = (lowBits(w[j]) > 0 ? high + 1 : high + count - 1) % count;
                }
                w[j] = high;
            }
        }
    }

}
