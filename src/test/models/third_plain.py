"""The third model, second half: plain Python from the document and the publications. It prints calls at random, forged
ones among them, with the answers that are due: python3 third_plain.py seed cases. FF1 needs the package cryptography."""
import functools
import hashlib
import hmac
import math
from third_common import R, emit, rb, run

def enc(v):
    return v.to_bytes((v.bit_length() + 7) // 8, 'big')

def num(b):
    return int.from_bytes(b, 'big')

def okN(b):
    return len(enc(num(b))) <= 128
P20 = [2, 3, 5, 7, 11, 13, 17, 19, 23, 29, 31, 37, 41, 43, 47, 53, 59, 61, 67, 71]

def prime(x, k=20):
    if x < 2:
        return 0
    for p in P20[:k]:
        if p >= x:
            break
        d = x - 1
        s = 0
        while d % 2 == 0:
            d //= 2
            s += 1
        v = pow(p, d, x)
        if v == 1:
            continue
        ok = False
        for _ in range(s):
            if v == x - 1:
                ok = True
                break
            v = v * v % x
        if not ok:
            return 0
    return 1

def rprime(bits):
    while 1:
        p = R.getrandbits(bits) | 1 | 1 << bits - 1
        if all((p % q or p == q for q in P20)) and prime(p):
            return p

def rnum():
    c = R.randrange(8)
    if c == 0:
        return R.randrange(4)
    if c == 1:
        return R.randrange(300)
    if c == 2:
        return (1 << R.randrange(1025)) - R.randrange(2)
    if c == 3:
        return R.getrandbits(R.choice([8, 28, 29, 56, 64, 128, 256, 512, 1024, 1024, 1030]))
    if c == 4:
        return (1 << 1024) - 1 >> R.randrange(60)
    if c == 5:
        return sum((R.choice([0, 2 ** 28 - 1, 2 ** 27, 1, 2 ** 28 - 2]) << 28 * i for i in range(R.randrange(37))))
    return R.getrandbits(R.randrange(1, 1025))

def nb(v):
    return b'\x00' * R.choice([0, 0, 0, 1, 5]) + enc(v)

def sqrt11(a, m):
    if m < 3 or m % 2 == 0 or (m - 1) % (1 << 101) == 0 or (not prime(m)):
        return -3
    a %= m
    if a == 0:
        return 0
    if pow(a, (m - 1) // 2, m) != 1:
        return -3
    s = m - 1
    e = 0
    while s % 2 == 0:
        s //= 2
        e += 1
    r = pow(a, (s + 1) // 2, m)
    t = pow(a, s, m)
    if t != 1:
        for z in range(2, 1001):
            if pow(z, (m - 1) // 2, m) != 1:
                break
        else:
            return -3
        c = pow(z, s, m)
        while t != 1:
            k = next((k for k in range(e) if pow(t, 1 << k, m) == 1), None)
            if k is None:
                return -3
            b = pow(c, 1 << e - k - 1, m)
            r = r * b % m
            c = b * b % m
            t = t * c % m
            e = k
    return min(r, m - r)

def t_work():
    op = R.randrange(12)
    a, b, m = (rnum(), rnum(), rnum())
    if op in (3, 4) and R.random() < 0.5:
        b = rnum() >> R.randrange(600)
    if op == 11:
        m = R.choice([0, 1, 2, 3, 4, 5, 7, 9, 13, 17, 257, 65537, rprime(R.choice([16, 28, 29, 64, 255])), 2 ** 255 - 19, 2 ** 224 - 2 ** 96 + 1, m])
        a = R.choice([a, a * a % m if m else 0, pow(R.getrandbits(200), 2, m) if m else 1, m, 0, m + 1])
    if op == 9 and R.random() < 0.3:
        a = m * R.randrange(3) >> R.randrange(3)
    if op == 8 and R.random() < 0.8:
        b = R.getrandbits(R.randrange(1, 200))
    A, B, Mm = (nb(a), nb(b), nb(m))
    two = op not in (9, 11)
    hm = op in (5, 6, 7, 8, 9, 11)
    if a >> 1024 or (two and b >> 1024) or (hm and m >> 1024):
        r = -1
    elif op == 0:
        r = enc(a + b)
    elif op == 1:
        r = -3 if a < b else enc(a - b)
    elif op == 2:
        r = enc(a * b)
    elif op == 3:
        r = -3 if b == 0 else enc(a // b)
    elif op == 4:
        r = -3 if b == 0 else enc(a % b)
    elif op in (5, 6, 7, 8):
        r = -3 if m == 0 else enc({5: lambda: (a + b) % m, 6: lambda: (a - b) % m, 7: lambda: a * b % m, 8: lambda: pow(a, b, m)}[op]())
    elif op == 9:
        r = -3 if m < 2 or math.gcd(a, m) != 1 else enc(pow(a, -1, m))
    elif op == 10:
        r = enc(math.gcd(a, b))
    else:
        v = sqrt11(a, m)
        r = -3 if v == -3 else enc(v)
    if isinstance(r, int):
        emit('work', op, A, B, Mm, ans=r)
    else:
        emit('work', op, A, B, Mm, rows=[r])

def t_prime():
    x = R.choice([R.randrange(3000), rnum(), rprime(R.choice([8, 20, 64, 200])), 3215031751, 3825123056546413051, 318665857834031151167461, R.choice(P20) * R.choice(P20)])
    k = R.choice([0, 21, 1, 20, R.randrange(1, 21)])
    emit('prime', nb(x), k, ans=-1 if not 1 <= k <= 20 or x >> 1024 else prime(x, k))

def t_witness():
    c = R.randrange(4)
    if c == 0:
        x, q, a = (R.randrange(400), R.randrange(40), R.randrange(40))
    elif c == 1:
        x, q, a = (rnum(), rnum(), rnum())
    else:
        q = rprime(R.choice([16, 64, 128]))
        while 1:
            x = 2 * q * R.randrange(1, q // 2 - 1 if q > 9 else 2) + 1
            if c == 3 or prime(x):
                break
        a = R.randrange(2, 1000)
    if max(x, q, a) >> 1024:
        r = -1
    else:
        r = int(x > 1 and prime(q) == 1 and (q * q > x) and ((x - 1) % q == 0) and (pow(a, x - 1, x) == 1) and (math.gcd(pow(a, (x - 1) // q, x) - 1, x) == 1))
    emit('witness', nb(x), nb(q), nb(a), ans=r)
def h(*parts):
    return int(''.join(parts), 16)

CP = [(2 ** 256 - 2 ** 224 + 2 ** 192 + 2 ** 96 - 1, -3,
       h('5ac635d8aa3a93e7b3ebbd55769886bc651d06b0cc53b0f63bce3c3e27d2604b'),
       h('6b17d1f2e12c4247f8bce6e563a440f277037d812deb33a0f4a13945d898c296'),
       h('4fe342e2fe1a7f9b8ee7eb4a7c0f9e162bce33576b315ececbb6406837bf51f5'),
       h('ffffffff00000000ffffffffffffffffbce6faada7179e84f3b9cac2fc632551'), 32),
      (2 ** 384 - 2 ** 128 - 2 ** 96 + 2 ** 32 - 1, -3,
       h('b3312fa7e23ee7e4988e056be3f82d19181d9c6efe814112', '0314088f5013875ac656398d8a2ed19d2a85c8edd3ec2aef'),
       h('aa87ca22be8b05378eb1c71ef320ad746e1d3b628ba79b98', '59f741e082542a385502f25dbf55296c3a545e3872760ab7'),
       h('3617de4a96262c6f5d9e98bf9292dc29f8f41dbd289a147c', 'e9da3113b5f0b8c00a60b1ce1d7e819d7a431d7c90ea0e5f'),
       h('ffffffffffffffffffffffffffffffffffffffffffffffff', 'c7634d81f4372ddf581a0db248b0a77aecec196accc52973'), 48),
      (2 ** 256 - 2 ** 32 - 977, 0, 7,
       h('79be667ef9dcbbac55a06295ce870b07029bfcdb2dce28d959f2815b16f81798'),
       h('483ada7726a3c4655da4fbfc0e1108a8fd17b448a68554199c47d08ffb10d4b8'),
       h('fffffffffffffffffffffffffffffffebaaedce6af48a03bbfd25e8cd0364141'), 32)]

class C:

    def __init__(s, i):
        s.p, s.a, s.b, gx, gy, s.q, s.w = CP[i]
        s.G = (gx, gy)

    def add(s, P, Q):
        if P is None:
            return Q
        if Q is None:
            return P
        p = s.p
        if P[0] == Q[0]:
            if (P[1] + Q[1]) % p == 0:
                return None
            l = (3 * P[0] * P[0] + s.a) * pow(2 * P[1], -1, p) % p
        else:
            l = (Q[1] - P[1]) * pow(Q[0] - P[0], -1, p) % p
        x = (l * l - P[0] - Q[0]) % p
        return (x, (l * (P[0] - x) - P[1]) % p)

    def neg(s, P):
        return None if P is None else (P[0], -P[1] % s.p)

    def mul(s, k, P):
        r = None
        while k:
            if k & 1:
                r = s.add(r, P)
            P = s.add(P, P)
            k >>= 1
        return r

    def enc(s, P, long=False):
        if P is None:
            return b'\x00'
        x = P[0].to_bytes(s.w, 'big')
        return b'\x04' + x + P[1].to_bytes(s.w, 'big') if long else bytes([2 + P[1] % 2]) + x

    def lift(s, x, par):
        if x >= s.p:
            return None
        z = (x ** 3 + s.a * x + s.b) % s.p
        y = pow(z, (s.p + 1) // 4, s.p)
        if y * y % s.p != z:
            return None
        if y % 2 != par:
            y = -y % s.p
        return (x, y)

    def dec(s, b):
        if b == b'\x00':
            return None
        if len(b) == 1 + s.w and b[0] in (2, 3):
            P = s.lift(num(b[1:]), b[0] & 1)
            return False if P is None else P
        if len(b) == 1 + 2 * s.w and b[0] == 4:
            x, y = (num(b[1:1 + s.w]), num(b[1 + s.w:]))
            if x < s.p and y < s.p and ((x ** 3 + s.a * x + s.b - y * y) % s.p == 0):
                return (x, y)
        return False
CS = [C(0), C(1), C(2)]

def rpt(c):
    v = R.randrange(10)
    if v == 0:
        return b'\x00'
    P = c.mul(R.choice([1, 2, c.q - 1, R.randrange(1, c.q)]), c.G)
    if v == 1:
        return c.enc(P, True)[:-1]
    if v == 2:
        return bytes([R.choice([5, 6, 7, 1, 0, 4])]) + c.enc(P)[1:]
    if v == 3:
        b = bytearray(c.enc(P, True))
        b[-1] ^= 1
        return bytes(b)
    if v == 4:
        return bytes([2 + R.randrange(2)]) + rb(c.w)
    if v == 5:
        return bytes([2]) + (c.p + R.randrange(3)).to_bytes(c.w, 'big')
    return c.enc(P, R.random() < 0.5)

def t_point():
    i = R.randrange(3)
    c = CS[i]
    op = R.randrange(5)
    if op < 2:
        a = R.choice([b'', b'\x00', enc(c.q), enc(c.q - 1), enc(c.q + 1), rb(c.w), rb(c.w + 1), rb(R.randrange(c.w)), b'\xff' * c.w])
    else:
        a = rpt(c)
    b = R.choice([rpt(c), a if op == 2 else rpt(c)])
    if op == 2 and R.random() < 0.3:
        P = c.dec(a)
        if P is not False:
            b = c.enc(c.neg(P), R.random() < 0.5)
    if op == 0:
        r = -1 if len(a) > c.w else c.enc(c.mul(num(a), c.G))
    elif op == 1:
        P = c.dec(b)
        r = -1 if len(a) > c.w else -3 if P is False else c.enc(c.mul(num(a), P))
    else:
        P = c.dec(a)
        Q = c.dec(b)
        if P is False or (op == 2 and Q is False):
            r = -3
        else:
            r = c.enc(c.add(P, Q)) if op == 2 else c.enc(c.neg(P)) if op == 3 else c.enc(P, True)
    if isinstance(r, int):
        emit('point', i, op, a, b, ans=r)
    else:
        emit('point', i, op, a, b, rows=[r])
HN = ['sha1', 'sha224', 'sha256', 'sha384', 'sha512', 'sha512_256', 'sha3_224', 'sha3_256', 'sha3_384', 'sha3_512']

def hz(h, x, c):
    d = hashlib.new(HN[h], x).digest()
    return num(d[:c.w]) % c.q

def t_nonce():
    i = R.randrange(3)
    c = CS[i]
    h = R.randrange(10)
    x = rb(R.randrange(99))
    d = R.randrange(1, c.q)
    more = rb(R.randrange(50))
    z = hz(h, x, c)
    hl = hashlib.new(HN[h]).digest_size
    K = b'\x00' * hl
    V = b'\x01' * hl
    hm = lambda k, m: hmac.new(k, m, HN[h]).digest()
    seed = d.to_bytes(c.w, 'big') + z.to_bytes(c.w, 'big') + more
    K = hm(K, V + b'\x00' + seed)
    V = hm(K, V)
    K = hm(K, V + b'\x01' + seed)
    V = hm(K, V)
    while 1:
        T = b''
        while len(T) < c.w:
            V = hm(K, V)
            T += V
        k = num(T[:c.w])
        if 1 <= k < c.q:
            break
        K = hm(K, V + b'\x00')
        V = hm(K, V)
    r = c.mul(k, c.G)[0] % c.q
    s = pow(k, -1, c.q) * (z + r * d) % c.q
    sig = r.to_bytes(c.w, 'big') + s.to_bytes(c.w, 'big')
    emit('sign', i, h, d.to_bytes(c.w, 'big'), x, more, rows=[sig])
    y = rb(20)
    z2 = hz(h, y, c)
    s2 = pow(k, -1, c.q) * (z2 + r * d) % c.q
    sig2 = r.to_bytes(c.w, 'big') + s2.to_bytes(c.w, 'big')
    emit('reused', i, h, sig, x, sig2, y, rows=[d.to_bytes(c.w, 'big')])
    emit('reused', i, h, sig, x, sig, x, ans=-3)
    emit('reused', i, h, sig, x, sig2[1:], y, ans=-1)
    s = num(sig[c.w:])
    if s + c.q < 256 ** c.w:
        emit('reused', i, h, sig[:c.w] + (s + c.q).to_bytes(c.w, 'big'), x, sig, y, ans=-3)

def th(t, m):
    h = hashlib.sha256(t).digest()
    return hashlib.sha256(h + h + m).digest()

def t_schnorr():
    c = CS[2]
    d = R.randrange(1, c.q)
    m = rb(R.choice([32, R.randrange(99)]))
    aux = rb(32)
    P = c.mul(d, c.G)
    dd = d if P[1] % 2 == 0 else c.q - d
    px = P[0].to_bytes(32, 'big')
    t = (dd ^ num(th(b'BIP0340/aux', aux))).to_bytes(32, 'big')
    k = num(th(b'BIP0340/nonce', t + px + m)) % c.q
    Rr = c.mul(k, c.G)
    k = k if Rr[1] % 2 == 0 else c.q - k
    rx = Rr[0].to_bytes(32, 'big')
    e = num(th(b'BIP0340/challenge', rx + px + m)) % c.q
    sig = rx + ((k + e * dd) % c.q).to_bytes(32, 'big')
    emit('key', 4, d.to_bytes(32, 'big'), rows=[px])
    emit('sign', 4, 99, d.to_bytes(32, 'big'), m, aux, rows=[sig])
    emit('verify', 4, 99, px, m, sig, ans=1)
    b = bytearray(sig)
    b[R.randrange(64)] ^= 1
    emit('verify', 4, 0, px, m, bytes(b), ans=0)
    emit('sign', 4, 0, d.to_bytes(32, 'big'), m, aux[1:], ans=-1)
    emit('sign', 4, 0, R.choice([bytes(32), enc(c.q), b'\xff' * 32, d.to_bytes(33, 'big')]), m, aux, ans=-1)
p = 2 ** 255 - 19
L = 2 ** 252 + 27742317777372353535851937790883648493
D = -121665 * pow(121666, -1, p) % p
I = pow(2, (p - 1) // 4, p)

def eadd(P, Q):
    x = P[0] * Q[1] + Q[0] * P[1]
    y = P[1] * Q[1] + P[0] * Q[0]
    t = D * P[0] * Q[0] * P[1] * Q[1] % p
    return (x * pow(1 + t, -1, p) % p, y * pow(1 - t, -1, p) % p)

def emul(k, P):
    r = (0, 1)
    while k:
        if k & 1:
            r = eadd(r, P)
        P = eadd(P, P)
        k >>= 1
    return r

def eenc(P):
    return (P[1] | (P[0] & 1) << 255).to_bytes(32, 'little')

def edec(b):
    if len(b) != 32:
        return None
    v = int.from_bytes(b, 'little')
    y = v % 2 ** 255
    s = v >> 255
    if y >= p:
        return None
    u = (y * y - 1) % p
    w = (D * y * y + 1) % p
    x2 = u * pow(w, -1, p) % p
    x = pow(x2, (p + 3) // 8, p)
    if (x * x - x2) % p:
        x = x * I % p
    if (x * x - x2) % p:
        return None
    if x == 0 and s:
        return None
    if x % 2 != s:
        x = p - x
    return (x, y)
B = edec(bytes.fromhex('58' + '66' * 31))
SM = []

def small():
    if not SM:
        while 1:
            P = edec(rb(32))
            if P is None:
                continue
            T = emul(L, P)
            if emul(4, T) != (0, 1):
                break
        for i in range(8):
            SM.append(emul(i, T))
    return R.choice(SM)

def rep():
    v = R.randrange(8)
    if v == 0:
        return rb(32)
    if v == 1:
        return eenc(small())
    if v == 2:
        return (p + R.randrange(19)).to_bytes(32, 'little')
    if v == 3:
        return bytes([1]) + bytes(30) + b'\x80'
    if v == 4:
        return rb(R.choice([31, 33, 0, 1]))
    if v == 5:
        return eenc(eadd(small(), emul(R.randrange(L), B)))
    return eenc(emul(R.randrange(L), B))

def t_epoint():
    op = R.randrange(5)
    a = R.choice([b'', rb(32), rb(33), rb(R.randrange(32)), L.to_bytes(32, 'little'), b'\xff' * 32]) if op < 2 else rep()
    b = rep()
    le = int.from_bytes
    if op == 0:
        r = -1 if len(a) > 32 else eenc(emul(le(a, 'little'), B))
    elif op == 1:
        P = edec(b)
        r = -1 if len(a) > 32 else -3 if P is None else eenc(emul(le(a, 'little'), P))
    else:
        P, Q = (edec(a), edec(b))
        r = -3 if P is None or (op == 2 and Q is None) else eenc(eadd(P, Q) if op == 2 else (-P[0] % p, P[1]) if op == 3 else P)
    if isinstance(r, int):
        emit('point', 3, op, a, b, ans=r)
    else:
        emit('point', 3, op, a, b, rows=[r])

def sh5(*a):
    return int.from_bytes(hashlib.sha512(b''.join(a)).digest(), 'little') % L
le32 = lambda v: v.to_bytes(32, 'little')

def t_everify():
    A = edec(rep()) or B
    k = R.randrange(L)
    x = rb(9)
    a = R.randrange(L)
    A = eadd(small(), emul(a, B))
    r = R.randrange(L)
    Rp = eadd(small(), emul(r, B))
    Ae, Re = (eenc(A), eenc(Rp))
    if R.random() < 0.2:
        Re = int.from_bytes(Re, 'little').to_bytes(32, 'little')
    kk = sh5(Re, Ae, x)
    S = (r + kk * a) % L
    emit('verify', 3, 0, Ae, x, Re + le32(S), ans=1)
    if S + L < 2 ** 256:
        emit('verify', 3, 0, Ae, x, Re + le32(S + L), ans=0)
    emit('verify', 3, 0, Ae, x, Re + le32((S + 1) % L), ans=0)
CT = b'FROST-ED25519-SHA512-v1'

def t_frost():
    n = R.randrange(1, 6)
    ids = sorted(R.sample(range(1, 256), n))
    t = n
    co = [R.randrange(L) for _ in range(t)]
    f = lambda i: sum((c * pow(i, j, L) for j, c in enumerate(co))) % L
    PK = emul(co[0], B)
    pk = eenc(PK)
    if co[0] == 0:
        return
    x = rb(R.randrange(60))
    lst = b''
    non = {}
    for i in ids:
        rnd = rb(64)
        sec = le32(f(i))
        sec = R.choice([sec, le32(f(i) + L) if f(i) + L < 2 ** 256 else sec])
        hn = sh5(CT, b'nonce', rnd[:32], sec)
        bn = sh5(CT, b'nonce', rnd[32:], sec)
        row = le32(hn) + le32(bn) + eenc(emul(hn, B)) + eenc(emul(bn, B))
        non[i] = (hn, bn, row, sec)
        emit('jointNonces', sec, rnd, rows=[row])
        lst += bytes([i]) + row[64:]

    def h512(*a):
        return hashlib.sha512(b''.join(a)).digest()
    mh = h512(CT, b'msg', x)
    ch = h512(CT, b'com', b''.join((le32(lst[k]) + lst[k + 1:k + 65] for k in range(0, len(lst), 65))))
    rho = {i: sh5(CT, b'rho', pk, mh, ch, le32(i)) for i in ids}
    GC = (0, 1)
    for i in ids:
        GC = eadd(GC, eadd(emul(non[i][0], B), emul(rho[i] * non[i][1] % L, B)))
    c = sh5(eenc(GC), pk, x)
    shs = b''
    z = 0
    for i in ids:
        lam = 1
        for j in ids:
            if j != i:
                lam = lam * j * pow(j - i, -1, L) % L
        s = (non[i][0] + non[i][1] * rho[i] + lam * f(i) * c) % L
        z += s
        shs += le32(s)
        emit('jointShare', i, non[i][3], non[i][2], pk, lst, x, rows=[le32(s)])
    emit('jointSign', lst, shs, pk, x, rows=[eenc(GC) + le32(z % L)])
    emit('verify', 3, 0, pk, x, eenc(GC) + le32(z % L), ans=1)
    i = ids[0]
    bad = next((j for j in range(1, 256) if j not in ids))
    emit('jointShare', bad, non[i][3], non[i][2], pk, lst, x, ans=-1)
    emit('jointShare', i, non[i][3], non[i][2], eenc((0, 1)), lst, x, ans=-3)
    emit('jointSign', lst, shs[:-32] + le32(L), pk, x, ans=-1)
    emit('jointSign', lst, shs[:-1], pk, x, ans=-1)
    emit('jointSign', b'', b'', pk, x, ans=-1)
    l2 = bytearray(lst)
    l2[1:33] = eenc((0, 1))
    emit('jointSign', bytes(l2), shs, pk, x, ans=-3)
    l2 = bytearray(lst)
    l2[0] = 0
    emit('jointSign', bytes(l2), shs, pk, x, ans=-1)
    if n > 1:
        l2 = lst[65:130] + lst[:65] + lst[130:]
        emit('jointSign', l2, shs, pk, x, ans=-1)
        emit('jointShare', i, non[i][3], non[i][2], pk, l2, x, ans=-1)

def gm(a, b):
    r = 0
    while b:
        if b & 1:
            r ^= a
        a <<= 1
        if a & 256:
            a ^= 283
        b >>= 1
    return r
GI = [0] * 256
for a in range(1, 256):
    for b in range(1, 256):
        if gm(a, b) == 1:
            GI[a] = b

def t_share():
    t = R.randrange(1, 9)
    n = R.choice([1, 2, 255, R.randrange(1, 256)])
    x = rb(n)
    co = rb((t - 1) * n)
    ids = R.sample(range(1, 256), t)
    out = b''
    for i in ids:
        s = bytes([i])
        for j in range(n):
            v = x[j]
            pw = i
            for k in range(t - 1):
                v ^= gm(co[k * n + j], pw)
                pw = gm(pw, i)
            s += bytes([v])
        emit('share', t, i, x, co, rows=[s])
        out += s
    emit('together', t, out, rows=[x])
    emit('share', t, R.choice([0, 256, -1]), x, co, ans=-1)
    emit('share', R.choice([0, 9, -1]), 1, x, co, ans=-1)
    emit('share', t, 1, x, co + b'1', ans=-1)
    b = bytearray(out)
    b[0] = 0
    emit('together', t, bytes(b), ans=-1)
    if t > 1:
        b[0] = b[n + 1]
        emit('together', t, bytes(b), ans=-1)
    emit('together', t, out + b'1', ans=-1) if t > 1 else None
    m = R.randrange(2, 8192 // t + 1) if R.random() < 0.2 else R.randrange(2, 9)
    rows = [bytes([i]) + rb(m - 1) for i in ids]
    res = bytearray(m - 1)
    for a, i in enumerate(ids):
        lam = 1
        for b_, j in enumerate(ids):
            if a != b_:
                lam = gm(lam, gm(j, GI[i ^ j]))
        for k in range(m - 1):
            res[k] ^= gm(lam, rows[a][k + 1])
    emit('together', t, b''.join(rows), rows=[bytes(res)])
c0 = CS[0]
q = c0.q
b32 = lambda v: v.to_bytes(32, 'big')

def t_pledge():
    t = R.randrange(1, 5)
    co = [R.choice([R.randrange(q), 0, q - 1, 1]) if R.random() < 0.2 else R.randrange(1, q) for _ in range(t)]
    x = b''.join(map(b32, co))
    i = R.randrange(1, 256)
    s = sum((c * pow(i, k, q) for k, c in enumerate(co))) % q
    emit('pledge', i, x, rows=[b32(s)])
    if 0 in co:
        emit('pledge', 0, x, ans=-1)
        return
    pl = b''.join((c0.enc(c0.mul(c, c0.G)) for c in co))
    emit('pledge', 0, x, rows=[pl])
    emit('fits', i, b32(s), pl, ans=1)
    emit('fits', i, b32((s + 1) % q), pl, ans=0)
    emit('fits', i % 255 + 1, b32(s), pl, ans=int(sum((c * pow(i % 255 + 1, k, q) for k, c in enumerate(co))) % q == s))
    emit('fits', R.choice([0, 256, -3]), b32(s), pl, ans=0)
    emit('fits', i, b32(s)[1:], pl, ans=0)
    emit('fits', i, b32(s), pl[1:], ans=0)
    if s + q < 2 ** 256:
        emit('fits', i, b32(s + q), pl, ans=0)
    emit('pledge', i, x[:-32] + b32(q), ans=-1)
    emit('pledge', 256, x, ans=-1)
    emit('pledge', i, x[1:], ans=-1)
n = 0
while 1:
    hh = hashlib.sha256(n.to_bytes(4, 'big') + b'second base').digest()
    HB = c0.lift(num(hh), 0)
    if HB:
        break
    n += 1

def ch(*P):
    return num(hashlib.sha256(b''.join((c0.enc(x) for x in P))).digest()) % q
rs = lambda: R.choice([1, q - 1]) if R.random() < 0.1 else R.randrange(1, q)
sub = lambda P, Q_: c0.add(P, c0.neg(Q_))

def t_commit():
    v = R.choice([0, 1, R.randrange(q)])
    r = rs()
    emit('commit', b32(v), b32(r), rows=[c0.enc(c0.add(c0.mul(v, c0.G), c0.mul(r, HB)))])
    emit('commit', b32(v), R.choice([bytes(32), b32(q), b32(r)[1:], b'\x00' + b32(r)]), ans=-1)
    emit('commit', R.choice([b32(q), b32(v)[1:], b'']), b32(r), ans=-1)

def t_same():
    a, k = (rs(), rs())
    Qp = c0.mul(rs(), c0.G)
    X = c0.mul(a, c0.G)
    Y = c0.mul(a, Qp)
    e = ch(Qp, X, Y, c0.mul(k, c0.G), c0.mul(k, Qp))
    s = (k + e * a) % q
    pr = b32(e) + b32(s)
    lo = R.random() < 0.3
    emit('proveSame', b32(a), c0.enc(Qp, lo), b32(k), rows=[pr])
    emit('checkSame', c0.enc(X, lo), c0.enc(Qp, lo), c0.enc(Y), pr, ans=1)
    b = bytearray(pr)
    b[R.randrange(64)] ^= 1
    emit('checkSame', c0.enc(X), c0.enc(Qp), c0.enc(Y), bytes(b), ans=0)
    emit('checkSame', c0.enc(X), c0.enc(Qp), b'\x00', pr, ans=0)
    emit('proveSame', b32(a), b'\x00', b32(k), ans=-3)
    emit('proveSame', bytes(32), b'\x00', b32(k), ans=-1)
    emit('checkSame', c0.enc(X), c0.enc(Qp), c0.enc(Y), pr + b'1', ans=0)

def t_bit():
    v = R.randrange(2)
    r, ew, sw, k = (rs(), rs(), rs(), rs())
    Cm = c0.add(c0.mul(v, c0.G), c0.mul(r, HB))
    w = 1 - v
    Aw = sub(c0.mul(sw, HB), c0.mul(ew, sub(Cm, c0.mul(w, c0.G))))
    Av = c0.mul(k, HB)
    A = [0, 0]
    A[w] = Aw
    A[v] = Av
    e = ch(Cm, A[0], A[1])
    ev = (e - ew) % q
    sv = (k + ev * r) % q
    E = [0, 0]
    S = [0, 0]
    E[w], S[w], E[v], S[v] = (ew, sw, ev, sv)
    pr = b32(E[0]) + b32(S[0]) + b32(E[1]) + b32(S[1])
    emit('proveBit', v, b32(r) + b32(ew) + b32(sw) + b32(k), rows=[pr])
    emit('checkBit', c0.enc(Cm, R.random() < 0.3), pr, ans=1)
    b = bytearray(pr)
    b[R.randrange(128)] ^= 1
    emit('checkBit', c0.enc(Cm), bytes(b), ans=0)
    emit('proveBit', 2, b32(r) + b32(ew) + b32(sw) + b32(k), ans=-1)
    emit('proveBit', v, b32(r) + bytes(32) + b32(sw) + b32(k), ans=-1)

def t_delay():
    m = R.choice([R.getrandbits(R.choice([9, 64, 256, 512, 1024])) | 1, 3, 5, 255])
    m = max(m, 3)
    x = R.randrange(1, m)
    t = R.choice([1, 2, 255, 256, 257, 300, R.randrange(1, 600), 2000])
    w = (m.bit_length() + 7) // 8
    y = pow(x, 1 << t, m)
    l = num(hashlib.sha256(x.to_bytes(w, 'big') + y.to_bytes(w, 'big') + t.to_bytes(4, 'big')).digest()) | 1 | 1 << 255
    while not (all((l % z for z in P20)) and prime(l)):
        l += 2
    pi = pow(x, (1 << t) // l, m)
    pr = y.to_bytes(w, 'big') + pi.to_bytes(w, 'big')
    emit('delay', nb(x), nb(m), t, rows=[pr])
    emit('checkDelay', nb(x), nb(m), t, pr, ans=1)
    y2 = y ^ 1
    if y2 < m:
        l2 = num(hashlib.sha256(x.to_bytes(w, 'big') + y2.to_bytes(w, 'big') + t.to_bytes(4, 'big')).digest()) | 1 | 1 << 255
        while not (all((l2 % z for z in P20)) and prime(l2)):
            l2 += 2
        emit('checkDelay', nb(x), nb(m), t, y2.to_bytes(w, 'big') + pi.to_bytes(w, 'big'), ans=int(pow(pi, l2, m) * pow(x, pow(2, t, l2), m) % m == y2))
    emit('checkDelay', nb(x), nb(m), t, b'\x00' + pr, ans=0)
    emit('delay', nb(x), nb(m), R.choice([0, 2001, -1]), ans=-1)
    emit('delay', b'', nb(m), t, ans=-1)
    emit('delay', nb(m), nb(m), t, ans=-1)
    emit('delay', nb(x), nb(m + 1), t, ans=-1)
    emit('checkDelay', nb(x), nb(m + 1), t, b'', ans=-1)
from cryptography.hazmat.primitives.ciphers import Cipher, algorithms as A, modes as M
SZ = [20, 28, 32, 48, 64, 32, 28, 32, 48, 64]
OID = [None, 4, 1, 2, 3, 6, 7, 8, 9, 10]
hh = lambda h, *x: hashlib.new(HN[h], b''.join(x)).digest()

def mgf(h, s, n):
    o = b''
    i = 0
    while len(o) < n:
        o += hh(h, s, i.to_bytes(4, 'big'))
        i += 1
    return o[:n]
xr = lambda a, b: bytes((p ^ q for p, q in zip(a, b)))

def di(h, x):
    d = hh(h, x)
    if h == 0:
        return bytes.fromhex('3021300906052b0e03021a05000414') + d
    return bytes([48, 17 + len(d), 48, 13, 6, 9, 96, 134, 72, 1, 101, 3, 4, 2, OID[h], 5, 0, 4, len(d)]) + d
KEYS = []

def mkkey():
    bits = R.choice([505, 512, 513, 520, 600, 640, 768, 777, 1000, 1017, 1023, 1024, R.randrange(505, 1025)])
    while 1:
        p_, q_ = (rprime(bits // 2), rprime(bits - bits // 2))
        n = p_ * q_
        phi = (p_ - 1) * (q_ - 1)
        if p_ != q_ and n.bit_length() == bits and (math.gcd(phi, 65537) == 1):
            return (n, 65537, pow(65537, -1, phi))

def t_rsa():
    if len(KEYS) < 25 and R.random() < 0.3 or not KEYS:
        KEYS.append(mkkey())
    n, e, d = R.choice(KEYS)
    k = (n.bit_length() + 7) // 8
    h = R.randrange(10)
    hl = SZ[h]
    x = rb(R.choice([0, 1, 20, R.randrange(k)]))
    N_, E_, D_ = (nb(n), nb(e), nb(d))
    I = lambda v: v.to_bytes(k, 'big')
    if k < 64:
        emit('rsa', R.randrange(8), h, N_, E_, x, b'', ans=-1)
        return
    kind = R.choice([0, 2, 4, 6])
    flip = lambda b: (lambda c: (c.__setitem__(R.randrange(len(c)), R.randrange(256)), bytes(c))[1])(bytearray(b))
    if kind == 0:
        seed = rb(hl)
        lab = rb(R.choice([0, R.randrange(40)]))
        if k < 2 * hl + 2 or len(x) > k - 2 * hl - 2:
            emit('rsa', 0, h, N_, E_, x, seed + lab, ans=-1)
            emit('rsa', 1, h, N_, D_, I(5), lab, ans=-1 if k < 2 * hl + 2 else -3)
            return
        db = hh(h, lab) + bytes(k - len(x) - 2 * hl - 2) + b'\x01' + x
        mdb = xr(db, mgf(h, seed, k - hl - 1))
        ms = xr(seed, mgf(h, mdb, hl))
        c = I(pow(num(b'\x00' + ms + mdb), e, n))
        emit('rsa', 0, h, N_, E_, x, seed + lab, rows=[c])
        emit('rsa', 1, h, N_, D_, c, lab, rows=[x])
        emit('rsa', 1, h, N_, D_, c, lab + b'x', ans=-3)
        emit('rsa', 1, h, N_, D_, c[1:], lab, ans=-1)
        emit('rsa', 1, h, N_, D_, b'\x00' + c, lab, ans=-1)
        emit('rsa', 0, h, N_, E_, x, seed[1:], ans=-1)
        v = num(b'\x01' + ms + mdb)
        if v < n:
            emit('rsa', 1, h, N_, D_, I(pow(v, e, n)), lab, ans=-3)
        db2 = bytearray(db)
        db2[hl] ^= R.choice([2, 1])
        db2 = bytes(db2)
        mdb = xr(db2, mgf(h, seed, k - hl - 1))
        ms = xr(seed, mgf(h, mdb, hl))
        c = I(pow(num(b'\x00' + ms + mdb), e, n))
        rest = db2[hl:].lstrip(b'\x00')
        if rest[:1] == b'\x01':
            emit('rsa', 1, h, N_, D_, c, lab, rows=[rest[1:]])
        else:
            emit('rsa', 1, h, N_, D_, c, lab, ans=-3)
    elif kind == 2:
        if len(x) > k - 11:
            emit('rsa', 2, h, N_, E_, x, bytes([1]) * max(0, k - 3 - len(x)), ans=-1)
            return
        ps = bytes((R.randrange(1, 256) for _ in range(k - 3 - len(x))))
        em = b'\x00\x02' + ps + b'\x00' + x
        c = I(pow(num(em), e, n))
        emit('rsa', 2, h, N_, E_, x, ps, rows=[c])
        emit('rsa', 3, h, N_, D_, c, b'', rows=[x])
        emit('rsa', 2, h, N_, E_, x, ps + b'1', ans=-1)
        emit('rsa', 2, h, N_, E_, x, ps[:-1] + b'\x00', ans=-1)
        em2 = bytearray(em)
        i = R.choice([0, 1, 2, 5, 9, 10, R.randrange(k)])
        em2[i] = R.choice([0, 1, 2])
        em2 = bytes(em2)
        v = num(em2)
        if v < n:
            z = em2.find(b'\x00', 2)
            good = em2[:2] == b'\x00\x02' and z >= 10
            c = I(pow(v, e, n))
            if good:
                emit('rsa', 3, h, N_, D_, c, b'', rows=[em2[z + 1:]])
            else:
                emit('rsa', 3, h, N_, D_, c, b'', ans=-3)
        if n + 1 < 256 ** k:
            emit('rsa', 3, h, N_, D_, I(n), b'', ans=-3)
    elif kind == 4:
        eb = n.bit_length() - 1
        el = (eb + 7) // 8
        sl = R.choice([0, hl, max(0, el - hl - 2), max(0, el - hl - 1), R.randrange(60)])
        salt = rb(sl)
        if el < hl + sl + 2:
            emit('rsa', 4, h, N_, D_, x, salt, ans=-1)
            emit('rsa', 5, h, N_, E_, x, bytes([min(sl, 255)]) + I(1), ans=-1)
            return
        mh = hh(h, x)
        Hh = hh(h, bytes(8), mh, salt)
        db = bytes(el - sl - hl - 2) + b'\x01' + salt
        mdb = bytearray(xr(db, mgf(h, Hh, el - hl - 1)))
        mdb[0] &= 255 >> 8 * el - eb
        em = bytes(mdb) + Hh + b'\xbc'
        s = I(pow(num(em), d, n))
        emit('rsa', 4, h, N_, D_, x, salt, rows=[s])
        emit('rsa', 5, h, N_, E_, x, bytes([sl]) + s, rows=[mh])
        emit('rsa', 5, h, N_, E_, x + b'1', bytes([sl]) + s, ans=-3)
        if el >= hl + sl + 3:
            emit('rsa', 5, h, N_, E_, x, bytes([sl + 1]) + s, ans=-3)
        emit('rsa', 5, h, N_, E_, x, bytes([sl]) + s[1:], ans=-1)
        emit('rsa', 5, h, N_, E_, x, b'', ans=-1)
        em2 = bytearray(em)
        em2[R.choice([0, len(em) - 1, R.randrange(len(em))])] ^= 1 << R.randrange(8)
        if num(em2) < n:
            emit('rsa', 5, h, N_, E_, x, bytes([sl]) + I(pow(num(em2), d, n)), ans=-3)
        if el == k - 1:
            v = num(b'\x01' + em)
            if v < n:
                emit('rsa', 5, h, N_, E_, x, bytes([sl]) + I(pow(v, d, n)), ans=-3)
        if n + 1 < 256 ** k:
            emit('rsa', 5, h, N_, E_, x, bytes([sl]) + I(n), ans=-3)
    else:
        T_ = di(h, x)
        if k < len(T_) + 11:
            emit('rsa', 6, h, N_, D_, x, b'', ans=-1)
            emit('rsa', 7, h, N_, E_, x, I(1), ans=-1)
            return
        em = b'\x00\x01' + b'\xff' * (k - 3 - len(T_)) + b'\x00' + T_
        s = I(pow(num(em), d, n))
        emit('rsa', 6, h, N_, D_, x, b'', rows=[s])
        emit('rsa', 7, h, N_, E_, x, s, rows=[hh(h, x)])
        emit('rsa', 7, h, N_, E_, x + b'1', s, ans=-3)
        emit('rsa', 7, h, N_, E_, x, s + b'1', ans=-1)
        if n + 1 < 256 ** k:
            emit('rsa', 7, h, N_, E_, x, I(n), ans=-3)
    emit('rsa', R.randrange(8), h, N_, R.choice([b'', b'\x01', b'\x02', N_, enc(n + 1)]), x, b'', ans=-1)

def aes(k, b):
    e = Cipher(A.AES(k), M.ECB()).encryptor()
    return e.update(b)

def ff1(radix, back, key, T_, X):
    n = len(X)
    u = n // 2
    v = n - u
    b = ((radix ** v - 1).bit_length() + 7) // 8
    d = 4 * ((b + 3) // 4) + 4
    t = len(T_)
    Ad, Bd = (list(X[:u]), list(X[u:]))
    Pp = bytes([1, 2, 1]) + radix.to_bytes(3, 'big') + bytes([10, u % 256]) + n.to_bytes(4, 'big') + t.to_bytes(4, 'big')
    nm = lambda D: functools.reduce(lambda a, c: a * radix + c, D, 0)

    def st(v_, m):
        o = []
        for _ in range(m):
            o.append(v_ % radix)
            v_ //= radix
        return o[::-1]

    def F(i, D):
        Qq = T_ + bytes((-t - b - 1) % 16) + bytes([i]) + nm(D).to_bytes(b, 'big')
        Y = bytes(16)
        for j in range(0, len(Pp + Qq), 16):
            Y = aes(key, xr(Y, (Pp + Qq)[j:j + 16]))
        S = Y
        j = 1
        while len(S) < d:
            S += aes(key, xr(Y, j.to_bytes(16, 'big')))
            j += 1
        return num(S[:d])
    for i in range(9, -1, -1) if back else range(10):
        m = u if i % 2 == 0 else v
        if back:
            c = (nm(Bd) - F(i, Ad)) % radix ** m
            Bd = Ad
            Ad = st(c, m)
        else:
            c = (nm(Ad) + F(i, Bd)) % radix ** m
            Ad = Bd
            Bd = st(c, m)
    return bytes(Ad + Bd)

def t_ff1():
    radix = R.choice([2, 3, 10, 16, 26, 36, 255, 256, R.randrange(2, 257)])
    n = R.choice([2, 3, 48, 47, R.randrange(2, 49)])
    X = bytes((R.randrange(radix) for _ in range(n)))
    key = rb(R.choice([16, 24, 32]))
    T_ = rb(R.choice([0, 64, R.randrange(65)]))
    back = R.randrange(2)
    if radix ** n < 1000000:
        emit('format', radix, back, key, T_, X, ans=-1)
    else:
        emit('format', radix, back, key, T_, X, rows=[ff1(radix, back, key, T_, X)])
    emit('format', R.choice([1, 257, 0, -5]), back, key, T_, X, ans=-1)
    emit('format', radix, back, key, rb(65), X, ans=-1)
    emit('format', radix, back, key[1:], T_, X, ans=-1)
    if radix < 256:
        emit('format', radix, back, key, T_, X[:-1] + bytes([radix]), ans=-1)
RC = []

def lfsr():
    r = 1
    while 1:
        yield (r & 1)
        r <<= 1
        if r & 256:
            r ^= 369
g = lfsr()
for _ in range(24):
    RC.append(sum((next(g) << 2 ** j - 1 for j in range(7))))

def keccak(A_):
    M64 = 2 ** 64 - 1
    rol = lambda x, n_: (x << n_ | x >> 64 - n_) & M64 if n_ else x
    for rc in RC:
        Cc = [A_[x][0] ^ A_[x][1] ^ A_[x][2] ^ A_[x][3] ^ A_[x][4] for x in range(5)]
        Dd = [Cc[x - 1] ^ rol(Cc[(x + 1) % 5], 1) for x in range(5)]
        A_ = [[A_[x][y] ^ Dd[x] for y in range(5)] for x in range(5)]
        x, y = (1, 0)
        cur = A_[1][0]
        for t in range(24):
            x, y = (y, (2 * x + 3 * y) % 5)
            cur, A_[x][y] = (A_[x][y], rol(cur, (t + 1) * (t + 2) // 2 % 64))
        A_ = [[A_[x][y] ^ ~A_[(x + 1) % 5][y] & A_[(x + 2) % 5][y] for y in range(5)] for x in range(5)]
        A_[0][0] ^= rc
    return A_

def sponge(rate, m, suf, n):
    m = bytearray(m) + bytes([suf])
    m += bytes(-len(m) % rate)
    m[-1] |= 128
    S = [[0] * 5 for _ in range(5)]
    for i in range(0, len(m), rate):
        for j in range(rate // 8):
            S[j % 5][j // 5] ^= int.from_bytes(m[i + 8 * j:i + 8 * j + 8], 'little')
        S = keccak(S)
    o = b''
    while 1:
        for j in range(rate // 8):
            o += S[j % 5][j // 5].to_bytes(8, 'little')
        if len(o) >= n:
            return o[:n]
        S = keccak(S)
assert sponge(136, b'abc', 6, 32) == hashlib.sha3_256(b'abc').digest()

def le_(v):
    b = enc(v) or b'\x00'
    return bytes([len(b)]) + b

def re_(v):
    b = enc(v) or b'\x00'
    return b + bytes([len(b)])

def bp(b, w):
    z = le_(w) + b
    return z + bytes(-len(z) % w)

def t_kmac():
    k = R.choice([10, 11])
    rate = 168 if k == 10 else 136
    n = R.choice([0, 1, 31, 32, 33, rate, 8192 if R.random() < 0.1 else 5, R.randrange(300)])
    key = rb(R.choice([0, 1, 32, 31, 33, rate, 161, 165, R.randrange(500)]))
    x = rb(R.choice([0, 1, rate, rate - 1, rate - 3, rate - 4, R.randrange(500)]))
    es = lambda s: le_(8 * len(s)) + s
    emit('sum', k, n, key, x, rows=[sponge(rate, bp(es(b'KMAC') + es(b''), rate) + bp(es(key), rate) + x + re_(8 * n), 4, n)])
    emit('sum', k, R.choice([-1, 8193]), key, x, ans=-1)

run(globals())
