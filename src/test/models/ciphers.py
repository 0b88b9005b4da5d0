"""Prints the sums of many sealed forms, and nonces whose GCM counter goes round, that BoundsCiphersTest asks for.
It needs the package cryptography."""
import hashlib
from pattern import some
from cryptography.hazmat.primitives.ciphers import Cipher,algorithms,modes
from cryptography.hazmat.primitives.ciphers.aead import *
def aes(k,b):
    e=Cipher(algorithms.AES(k),modes.ECB()).encryptor(); return e.update(b)+e.finalize()
# XTS
a=hashlib.sha256()
for ks in (32,64):
    for n in list(range(16,82))+[8176,8177,8191,8192]:
        k=some(ks,n); iv=some(16,n+1); x=some(n,n+2)
        e=Cipher(algorithms.AES(k),modes.XTS(iv)).encryptor(); a.update(e.update(x)+e.finalize())
        e=Cipher(algorithms.AES(k),modes.XTS(iv)).decryptor(); a.update(e.update(x)+e.finalize())
print('XTS',a.hexdigest())
SZ=[0,1,15,16,17,31,32,33,64,8176]
AD=[0,1,13,14,15,16,17,30,31,64,8192]
a=hashlib.sha256()
for ks in (16,24,32):
    for nn in range(7,14):
        for n in SZ:
            ad=AD[(n+nn)%len(AD)]
            a.update(AESCCM(some(ks,nn),16).encrypt(some(nn,n),some(n,ks),some(ad,1)))
for ad in AD: a.update(AESCCM(some(16,1),16).encrypt(some(13,1),some(20,2),some(ad,3)))
print('CCM',a.hexdigest())
# SIV by hand
def dbl(b):
    v=int.from_bytes(b,'big')<<1
    if v>>128: v=(v&((1<<128)-1))^0x87
    return v.to_bytes(16,'big')
def cmac(k,m):
    L=aes(k,bytes(16));k1=dbl(L);k2=dbl(k1)
    if m and len(m)%16==0: m=m[:-16]+bytes(p^q for p,q in zip(m[-16:],k1))
    else:
        r=m[len(m)//16*16:]; last=r+b'\x80'+bytes(15-len(r)); m=m[:len(m)//16*16]+bytes(p^q for p,q in zip(last,k2))
    c=bytes(16)
    for i in range(0,len(m),16): c=aes(k,bytes(p^q for p,q in zip(c,m[i:i+16])))
    return c
def x(a,b): return bytes(p^q for p,q in zip(a,b))
def siv(k,ad,nonce,p):
    h=len(k)//2;d=cmac(k[:h],bytes(16))
    for s in (ad,nonce): d=x(dbl(d),cmac(k[:h],s))
    if len(p)>=16: t=p[:-16]+x(p[-16:],d)
    else: t=x(dbl(d),p+b'\x80'+bytes(15-len(p)))
    v=cmac(k[:h],t); q=bytearray(v);q[8]&=127;q[12]&=127
    e=Cipher(algorithms.AES(k[h:]),modes.CTR(bytes(q))).encryptor()
    return v+e.update(p)+e.finalize()
k=some(32,1)
assert siv(k,b'ab',b'cde',b'hello world 12345')==AESSIV(k).encrypt(b'hello world 12345',[b'ab',b'cde'])
a=hashlib.sha256()
for ks in (32,48,64):
    for nn in (0,1,12,15,16,17,8192):
        for n in SZ[:-1]+([8176] if nn==12 else []):
            ad=AD[(n+nn)%len(AD)]
            a.update(siv(some(ks,nn),some(ad,1),some(nn,n),some(n,ks)))
print('SIV',a.hexdigest())
a=hashlib.sha256()
for ks in (16,32):
    for ad in AD:
        for n in SZ: a.update(AESGCMSIV(some(ks,ad)).encrypt(some(12,n),some(n,ks),some(ad,1)) if n else AESGCMSIV(some(ks,ad)).encrypt(some(12,n),b'',some(ad,1)))
print('GCMSIV',a.hexdigest())
key=bytes(32);pt=bytes.fromhex('000000000000000000000000000000004db923dc793ee6497c76dcc03a98e108')
print('wrap1',AESGCMSIV(key).encrypt(bytes(12),pt,b'').hex())
pt2=bytes.fromhex('eb3640277c7ffd1303c7a542d02d3e4c0000000000000000')
print('wrap2',AESGCMSIV(key).encrypt(bytes(12),pt2,b'').hex())
# GCM counter wrap: nonce of 16 bytes giving J0 with last 32 bits ffffffff - something
R=0xe1<<120
def gmul(a,b):
    z=0;v=b
    for i in range(127,-1,-1):
        if a>>i&1:z^=v
        v=(v>>1)^(R if v&1 else 0)
    return z
def ginv(a):
    r=1<<127;e=(1<<128)-2;b=a
    while e:
        if e&1:r=gmul(r,b)
        b=gmul(b,b);e>>=1
    return r
for low in (0xffffffff,0xfffffffe,0xfffffe10):
    K=some(16,5);H=int.from_bytes(aes(K,bytes(16)),'big')
    J=int.from_bytes(some(12,7)+low.to_bytes(4,'big'),'big'); L=128; Hi=ginv(H)
    N=gmul(gmul(J,Hi)^L,Hi)
    assert gmul(gmul(N,H)^L,H)==J
    n=N.to_bytes(16,'big'); ct=AESGCM(K).encrypt(n,some(8176,3),b'')
    print('gcmwrap',hex(low),n.hex(),hashlib.sha256(ct).hexdigest())
# FF1
def ff1(key,radix,tweak,X,back):
    n=len(X);u=n//2;v=n-u;A,B=list(X[:u]),list(X[u:])
    num=lambda d:__import__('functools').reduce(lambda s,c:s*radix+c,d,0)
    bb=((radix**v-1).bit_length()+7)//8; d=4*((bb+3)//4)+4
    P=bytes([1,2,1])+radix.to_bytes(3,'big')+bytes([10,u%256])+n.to_bytes(4,'big')+len(tweak).to_bytes(4,'big')
    for i in (range(9,-1,-1) if back else range(10)):
        Qs=tweak+bytes((-len(tweak)-bb-1)%16)+bytes([i])+num(A if back else B).to_bytes(bb,'big')
        c=bytes(16)
        m=P+Qs
        for j in range(0,len(m),16): c=aes(key,bytes(p^q for p,q in zip(c,m[j:j+16])))
        S=c
        j=1
        while len(S)<d: S+=aes(key,bytes(p^q for p,q in zip(c,j.to_bytes(16,'big'))));j+=1
        y=int.from_bytes(S[:d],'big'); mm=u if i%2==0 else v
        cc=(num(B)-y if back else num(A)+y)%radix**mm
        C=[]
        for _ in range(mm): C.insert(0,cc%radix);cc//=radix
        if back: B=A;A=C
        else: A=B;B=C
    return bytes(A+B)
assert ff1(bytes.fromhex('2b7e151628aed2a6abf7158809cf4f3c'),10,b'',bytes(range(10)),False).hex()=='02040303040707040804'
a=hashlib.sha256()
for radix in range(2,257):
    least=2
    while radix**least<1000000: least+=1
    for n in sorted({least,least+1,47,48}):
        X=bytes(c%radix for c in some(n,radix)); tw=some(radix%65,n); K=some((16,24,32)[n%3],radix)
        a.update(ff1(K,radix,tw,X,False)); a.update(ff1(K,radix,tw,X,True))
    X=bytes([radix-1])*48; a.update(ff1(some(16,1),radix,b'',X,False)); a.update(ff1(some(16,1),radix,some(64,1),bytes(48),True))
print('FF1',a.hexdigest())
