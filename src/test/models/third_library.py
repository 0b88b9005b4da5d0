"""The third model, first half: what hashlib and the package cryptography (OpenSSL 3.5 or later) answer. It prints
calls at random with the answers that are due: python3 third_library.py seed cases."""
import hashlib
import hmac
from third_common import R, emit, rb, run
from cryptography.hazmat.primitives.ciphers import Cipher, algorithms as A, modes as M
from cryptography.hazmat.primitives.ciphers.aead import AESGCM, AESCCM, AESSIV, AESGCMSIV, ChaCha20Poly1305
try:
    from cryptography.hazmat.decrepit.ciphers.algorithms import TripleDES
    from cryptography.hazmat.decrepit.ciphers.modes import CFB, OFB
except Exception:
    TripleDES = A.TripleDES
    CFB = M.CFB
    OFB = M.OFB
from cryptography.hazmat.primitives import cmac, poly1305, keywrap, hashes
from cryptography.hazmat.primitives.asymmetric import ec, ed25519, x25519, utils, mldsa
from cryptography.hazmat.primitives import hpke, serialization
from cryptography.hazmat.bindings._rust import openssl as rust
rh = rust.hpke
HN = ['sha1', 'sha224', 'sha256', 'sha384', 'sha512', 'sha512_256', 'sha3_224', 'sha3_256', 'sha3_384', 'sha3_512']
HC = [hashes.SHA1, hashes.SHA224, hashes.SHA256, hashes.SHA384, hashes.SHA512, hashes.SHA512_256, hashes.SHA3_224, hashes.SHA3_256, hashes.SHA3_384, hashes.SHA3_512]
SZ = [20, 28, 32, 48, 64, 32, 28, 32, 48, 64]

def siz():
    return R.choice([0, 1, 2, 7, 8, 15, 16, 17, 31, 32, 33, 55, 56, 63, 64, 65, 111, 112, 127, 128, 129, 135, 136, 137, 143, 144, 145, 167, 168, 169, R.randrange(400), R.randrange(400)])

def t_hash():
    h = R.randrange(14)
    x = rb(siz())
    if h < 10:
        emit('hash', h, R.randrange(-5, 99), x, rows=[hashlib.new(HN[h], x).digest()])
    elif h < 12:
        n = R.choice([0, 1, 31, 32, 168, 169, 136, 137, R.randrange(8193)])
        emit('hash', h, n, x, rows=[(hashlib.shake_128 if h == 10 else hashlib.shake_256)(x).digest(n)])
    elif h == 12:
        n = R.randrange(1, 65)
        emit('hash', h, n, x, rows=[hashlib.blake2b(x, digest_size=n).digest()])
    else:
        n = R.randrange(1, 33)
        emit('hash', h, n, x, rows=[hashlib.blake2s(x, digest_size=n).digest()])

def hm(h, k, x):
    c = hmac.new(k, x, HN[h])
    return c.digest()

def t_sum():
    k = R.choice([0, 1, 2, 3, 4, 5, 6, 7, 8, 9, 12, 13, 14, 15])
    x = rb(siz())
    if k < 10:
        key = rb(siz())
        emit('sum', k, 0, key, x, rows=[hm(k, key, x)])
    elif k == 12:
        n = R.randrange(1, 65)
        key = rb(R.randrange(1, 65))
        emit('sum', k, n, key, x, rows=[hashlib.blake2b(x, digest_size=n, key=key).digest()])
    elif k == 13:
        n = R.randrange(1, 33)
        key = rb(R.randrange(1, 33))
        emit('sum', k, n, key, x, rows=[hashlib.blake2s(x, digest_size=n, key=key).digest()])
    elif k == 14:
        key = rb(R.choice([16, 24, 32]))
        c = cmac.CMAC(A.AES(key))
        c.update(x)
        emit('sum', k, -7, key, x, rows=[c.finalize()])
    else:
        key = rb(32)
        emit('sum', k, -7, key, x, rows=[poly1305.Poly1305.generate_tag(key, x)])

def hkdf(h, s, salt, info, n):
    prk = hm(h, salt, s)
    t = b''
    o = b''
    i = 0
    while len(o) < n:
        i += 1
        t = hm(h, prk, t + info + bytes([i]))
        o += t
    return o[:n]

def t_derive():
    h = R.randrange(10)
    n = R.choice([0, 1, SZ[h], SZ[h] + 1, R.randrange(500), min(8192, 255 * SZ[h])])
    s, sa, i = (rb(siz()), rb(R.choice([0, siz()])), rb(R.choice([0, siz()])))
    emit('derive', h, s, sa, i, n, rows=[hkdf(h, s, sa, i, n)])

def t_stretch():
    h = R.randrange(10)
    n = R.randrange(1, 257)
    p, s = (rb(siz()), rb(siz()))
    r = R.choice([1, 2, R.randrange(1, 40)])
    emit('stretch', h, p, s, r, n, rows=[hashlib.pbkdf2_hmac(HN[h], p, s, r, n)])

def t_scrypt():
    c = R.choice([2, 4, 8, 16, 32, 64])
    r = R.randrange(1, 5)
    p = R.randrange(1, 5)
    n = R.randrange(1, 257)
    pw, s = (rb(siz()), rb(siz()))
    emit('scrypt', pw, s, c, r, p, n, rows=[hashlib.scrypt(pw, salt=s, n=c, r=r, p=p, dklen=n)])

def t_crypt():
    b = R.randrange(3)
    if b == 0:
        key = rb(R.choice([16, 24, 32]))
        alg = A.AES(key)
        bs = 16
    elif b == 1:
        key = rb(8)
        alg = TripleDES(key * 3)
        bs = 8
    else:
        key = rb(R.choice([16, 24]))
        alg = TripleDES(key if len(key) == 24 else key + key[:8])
        bs = 8
    mode = R.choice([0, 1, 2, 3, 4, 5, 6])
    iv = rb(bs)
    if b and mode == 5:
        mode = 1
    if mode == 4 and R.random() < 0.5:
        iv = b'\xff' * (bs - 1) + bytes([R.randrange(250, 256)])
    x = rb(siz())
    back = R.random() < 0.5
    if mode in (0, 1):
        x = x[:len(x) // bs * bs]
    if mode == 5:
        key = rb(R.choice([32, 64]))
        alg = A.AES(key)
        x = rb(16 + siz())
    if mode == 0:
        m = M.ECB()
        ivr = b''
    else:
        ivr = iv
    if mode == 1:
        m = M.CBC(iv)
    if mode == 2:
        m = CFB(iv)
    if mode == 3:
        m = OFB(iv)
    if mode == 4 and b == 0:
        m = M.CTR(iv)
    if mode == 5:
        m = M.XTS(iv)

    def ecbe(blk):
        e = Cipher(alg, M.ECB()).encryptor()
        return e.update(blk) + e.finalize()
    if mode == 4 and b:
        o = b''
        c = int.from_bytes(iv, 'big')
        for i in range(0, len(x), 8):
            ks = ecbe((c % 2 ** 64).to_bytes(8, 'big'))
            c += 1
            o += bytes((p ^ q for p, q in zip(x[i:i + 8], ks)))
        emit('crypt', b, mode, back, key, ivr, x, rows=[o])
        return
    if mode == 6:
        pad = bs - len(x) % bs
        e = Cipher(alg, M.CBC(iv)).encryptor()
        ct = e.update(x + bytes([pad]) * pad) + e.finalize()
        if back:
            emit('crypt', b, 6, 1, key, ivr, ct, rows=[x])
        else:
            emit('crypt', b, 6, 0, key, ivr, x, rows=[ct])
        return
    e = Cipher(alg, m)
    e = e.decryptor() if back else e.encryptor()
    emit('crypt', b, mode, back, key, ivr, x, rows=[e.update(x) + e.finalize()])

def t_stream():
    key, n = (rb(32), rb(12))
    c = R.choice([0, 1, -1, -2, R.randrange(-2 ** 31, 2 ** 31)])
    x = rb(siz())
    o = b''
    for i in range(0, len(x), 64):
        e = Cipher(A.ChaCha20(key, ((c + i // 64) % 2 ** 32).to_bytes(4, 'little') + n), None).encryptor()
        o += e.update(x[i:i + 64])
    emit('stream', key, n, c, x, rows=[o])

def t_seal():
    k = R.randrange(5)
    ad = rb(R.choice([0, siz()]))
    x = rb(siz())
    if k == 0:
        key = rb(R.choice([16, 24, 32]))
        n = rb(R.choice([12, 8, 13, 16, 64, 100]))
        f = AESGCM(key)
    elif k == 1:
        key = rb(R.choice([16, 24, 32]))
        n = rb(R.randrange(7, 14))
        f = AESCCM(key)
    elif k == 2:
        key = rb(R.choice([32, 48, 64]))
        n = rb(R.choice([1, 12, 16, 40]))
        f = AESSIV(key)
    elif k == 3:
        key = rb(R.choice([16, 32]))
        n = rb(12)
        f = AESGCMSIV(key)
        x = x or b'a'
    else:
        key = rb(32)
        n = rb(12)
        f = ChaCha20Poly1305(key)
    if k == 2:
        x = x or b'q'
        c = f.encrypt(x, [ad, n])
    else:
        c = f.encrypt(n, x, ad)
    emit('seal', k, key, n, ad, x, rows=[c])
    emit('open', k, key, n, ad, c, rows=[x])
    d = bytearray(c)
    i = R.randrange(len(d))
    d[i] ^= 1 << R.randrange(8)
    emit('open', k, key, n, ad, bytes(d), ans=-3)
    if ad:
        emit('open', k, key, n, ad[:-1], c, ans=-3)

def t_wrap():
    key = rb(R.choice([16, 24, 32]))
    p = R.random() < 0.5
    if p:
        x = rb(R.randrange(1, 60))
        c = keywrap.aes_key_wrap_with_padding(key, x)
    else:
        x = rb(8 * R.randrange(2, 20))
        c = keywrap.aes_key_wrap(key, x)
    emit('wrap', p, 0, key, x, rows=[c])
    emit('wrap', p, 1, key, c, rows=[x])
    d = bytearray(c)
    d[R.randrange(len(d))] ^= 1
    emit('wrap', p, 1, key, bytes(d), ans=-3)
CUR = [(ec.SECP256R1(), 32), (ec.SECP384R1(), 48), (ec.SECP256K1(), 32)]
Q = [115792089210356248762697446949407573529996955224135760342422259061068512044369, 39402006196394479212279040100143613805079739270465446667946905279627659399113263569398956308152294913554433653942643, 115792089237316195423570985008687907852837564279074904382605163141518161494337]

def t_ecdsa():
    c = R.randrange(3)
    cv, w = CUR[c]
    d = R.choice([1, 2, Q[c] - 1, R.randrange(1, Q[c])])
    sk = ec.derive_private_key(d, cv)
    h = R.randrange(10)
    x = rb(siz())
    db = d.to_bytes(w, 'big')
    pk = sk.public_key().public_bytes(serialization.Encoding.X962, serialization.PublicFormat.CompressedPoint)
    pl = sk.public_key().public_bytes(serialization.Encoding.X962, serialization.PublicFormat.UncompressedPoint)
    emit('key', c, db, rows=[pk])
    try:
        s = sk.sign(x, ec.ECDSA(HC[h](), deterministic_signing=True))
        r, ss = utils.decode_dss_signature(s)
        sig = r.to_bytes(w, 'big') + ss.to_bytes(w, 'big')
        emit('sign', c, h, db, x, b'', rows=[sig])
    except Exception as e:
        s = sk.sign(x, ec.ECDSA(HC[h]()))
        r, ss = utils.decode_dss_signature(s)
        sig = r.to_bytes(w, 'big') + ss.to_bytes(w, 'big')
    emit('verify', c, h, R.choice([pk, pl]), x, sig, ans=1)
    emit('verify', c, h, pk, x + b'1', sig, ans=0)
    d = bytearray(sig)
    d[R.randrange(len(d))] ^= 1
    emit('verify', c, h, pk, x, bytes(d), ans=0)
    o = ec.derive_private_key(R.randrange(1, Q[c]), cv)
    emit('agree', c, db, R.choice([f.public_bytes(serialization.Encoding.X962, g) for f in [o.public_key()] for g in (serialization.PublicFormat.CompressedPoint, serialization.PublicFormat.UncompressedPoint)]), rows=[sk.exchange(ec.ECDH(), o.public_key())])

def t_ed():
    k = rb(32)
    x = rb(siz())
    s = ed25519.Ed25519PrivateKey.from_private_bytes(k)
    p = s.public_key().public_bytes_raw()
    sig = s.sign(x)
    emit('key', 3, k, rows=[p])
    emit('sign', 3, 77, k, x, b'', rows=[sig])
    emit('verify', 3, -1, p, x, sig, ans=1)
    d = bytearray(sig)
    d[R.randrange(64)] ^= 1
    emit('verify', 3, 0, p, x, bytes(d), ans=0)
    a = x25519.X25519PrivateKey.from_private_bytes(k)
    o = rb(32)
    emit('key', 5, k, rows=[a.public_key().public_bytes_raw()])
    emit('agree', 3, k, o, rows=[a.exchange(x25519.X25519PublicKey.from_public_bytes(o))])

def t_hpke():
    k = rb(32)
    a = x25519.X25519PrivateKey.from_private_bytes(k)
    ad = R.randrange(3)
    x = rb(siz())
    info = rb(R.choice([0, siz()]))
    aad = rb(R.choice([0, siz()]))
    su = hpke.Suite(hpke.KEM.X25519, hpke.KDF.HKDF_SHA256, [hpke.AEAD.AES_128_GCM, hpke.AEAD.AES_256_GCM, hpke.AEAD.CHACHA20_POLY1305][ad])
    c = rh._encrypt_with_aad(su, x, a.public_key(), info, aad)
    emit('hybridOpen', ad, k, info, aad, c, rows=[x])
    d = bytearray(c)
    d[R.randrange(len(d))] ^= 1
    emit('hybridOpen', ad, k, info, aad, bytes(d), ans=-3)

def t_dsa():
    kind = R.randrange(3)
    cl = [mldsa.MLDSA44PrivateKey, mldsa.MLDSA65PrivateKey, mldsa.MLDSA87PrivateKey][kind]
    seed = rb(32)
    s = cl.from_seed_bytes(seed)
    pk = s.public_key().public_bytes_raw()
    ctx = rb(R.choice([0, 1, 255, R.randrange(256)]))
    x = rb(siz())
    sig = s.sign(x, ctx) if ctx else s.sign(x)
    emit('latticeVerify', kind, pk, x, ctx, sig, ans=1)
    d = bytearray(sig)
    d[R.randrange(len(d))] ^= 1
    emit('latticeVerify', kind, pk, x, ctx, bytes(d), ans=0)
    emit('latticeVerify', kind, pk, x, ctx + b'a' if len(ctx) < 255 else ctx[1:], sig, ans=0)

run(globals())
