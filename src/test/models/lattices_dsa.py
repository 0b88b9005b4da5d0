"""Prints the lines sign, far, tries, slow and sample of lattices.txt; it reads what mldsa_cases.py printed. The texts
of the lines tries were found with the class itself (with a greater bound), some 40000 of them."""
import sys, hashlib
from mldsa import *
from cryptography.hazmat.primitives.asymmetric import mldsa as M
out=sys.stdout
cls=[M.MLDSA44PrivateKey,M.MLDSA65PrivateKey,M.MLDSA87PrivateKey]
seen=set()
lines=[]
for l in sys.stdin:
    w=l.split()
    if w and w[0]!='#': lines.append(w)
for w in lines:
    key=(w[0],w[1])
    if key in seen: continue
    seen.add(key)
    out.write(f"sign {w[0]} {w[1]} {w[2]} {w[3]}\n")
# forged: zn == bound
for kind in range(3):
    p=PAR[kind];pk,sk=keygen(kind,bytes([kind])*32);S=Signer(kind,sk);K=cls[kind].from_seed_bytes(bytes([kind])*32)
    b=p['g1']-p['tau']*p['eta'];lim=p['g2']-p['tau']*p['eta']
    m=0
    while True:
        sig,i,info=S.sign(bytes([m&255,m>>8]),b'',bytes(32),tries=400,want=lambda q:q['zn']==b and q['cn']<p['g2'] and q['ones']<=p['om'] and q['r0']<lim)
        if sig: break
        m+=1
    try:
        K.public_key().verify(sig,bytes([m&255,m>>8])); print('# taken by OpenSSL')
    except Exception as e: pass
    out.write(f"far {kind} {m} {sig.hex()}\n"); out.flush()
# 814 tries: t0 as java.util.Random(77) tells
class JR:
    def __init__(s,seed): s.s=(seed^0x5DEECE66D)&((1<<48)-1)
    def next(s,b): s.s=(s.s*0x5DEECE66D+0xB)&((1<<48)-1); return s.s>>(48-b)
    def boolean(s): return s.next(1)!=0
r=JR(77); pk,sk=keygen(0,bytes(32))
x=0
for i in range(1024):
    t=4095 if r.boolean() else -4095
    x|=(4096-t)<<(13*i)
at=128+96*8
sk=sk[:at]+x.to_bytes(416*4,'little')
S=Signer(0,sk)
for m in (1766,11398):
    sig,i,info=S.sign(bytes([m&255,m>>8&255,m>>16]),b'',bytes(32),tries=816)
    out.write(f"tries {m} {i} {hashlib.sha256(sig).hexdigest()}\n"); out.flush()
out.write(f"slow {sk.hex()}\n")
# a sample that is q itself
for kind in range(3):
    p=PAR[kind]; n=0
    while True:
        xi=hashlib.sha256(b'q'+bytes([kind])+n.to_bytes(4,'little')).digest(); rho=shake256(xi+bytes([p['k'],p['l']]),32); hit=False
        for rr in range(p['k']):
            for ss in range(p['l']):
                b=np.frombuffer(hashlib.shake_128(rho+bytes([ss,rr])).digest(768),dtype=np.uint8).reshape(-1,3).astype(np.int64)
                v=b[:,0]|b[:,1]<<8|(b[:,2]&127)<<16
                if (v==Q).any(): hit=True
        if hit: break
        n+=1
    pk,sk=keygen(kind,xi)
    assert cls[kind].from_seed_bytes(xi).public_key().public_bytes_raw()==pk
    out.write(f"sample {kind} {xi.hex()} {hashlib.sha256(pk).hexdigest()} {hashlib.sha256(sk).hexdigest()}\n")
