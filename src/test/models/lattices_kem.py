"""Prints the lines kem of lattices.txt."""
import hashlib, sys
import mlkem
from pattern import some
out=sys.stdout
for kind in range(3):
    k=kind+2
    ek,dk=mlkem.keygen(kind,some(32,kind),some(32,kind+9))
    m=some(32,3)
    c,K=mlkem.encaps(kind,ek,m)
    # opening key whose own numbers are 3329 and more: the same numbers with 3329 added where they are below 767
    def raise12(b,only=None):
        x=int.from_bytes(b,'little');n=0
        for i in range(256):
            v=(x>>(12*i))&4095
            if v+3329<4096: x+=3329<<(12*i); n+=1
        return x.to_bytes(384,'little'),n
    b,n=raise12(dk[:384]); assert n>10
    dk1=b+dk[384:]
    r1=mlkem.decaps(kind,dk1,c); assert r1==K
    b,n=raise12(ek[:384]); ek2=b+ek[384:]
    dk2=dk[:384*k]+ek2+hashlib.sha3_256(ek2).digest()+dk[-32:]
    r2=mlkem.decaps(kind,dk2,c)
    c3,_=mlkem.encaps(kind,ek2,m)   # what the raised key would seal
    r3=mlkem.decaps(kind,dk2,c3)
    assert r3!=r2
    out.write(' '.join(['kem',str(kind),hashlib.sha256(ek).hexdigest(),hashlib.sha256(dk).hexdigest(),hashlib.sha256(c).hexdigest(),K.hex(),r1.hex(),r2.hex(),c3.hex(),r3.hex()])+'\n')
