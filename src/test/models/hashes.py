"""Prints the sums of many BLAKE2 hashes, and scrypt at its most and least, that BoundsHashesTest asks for."""
import hashlib
from pattern import some
X=[0,1,63,64,65,127,128,129,255,256,257,8192]
for kind,cls,mx in ((12,hashlib.blake2b,64),(13,hashlib.blake2s,32)):
    a=hashlib.sha256()
    for n in range(1,mx+1):
        for x in X: a.update(cls(some(x,n),digest_size=n).digest())
    print(kind,'hash',a.hexdigest())
    a=hashlib.sha256()
    for k in range(1,mx+1):
        for x in X: a.update(cls(some(x,k),digest_size=mx+1-k,key=some(k,x)).digest())
    print(kind,'keyed',a.hexdigest())
print('scrypt', hashlib.scrypt(some(8192, 1), salt=some(8192, 2), n=64, r=4, p=4, dklen=256, maxmem=1 << 26).hex())
print('scrypt', hashlib.scrypt(b'', salt=b'', n=2, r=1, p=1, dklen=33).hex())
