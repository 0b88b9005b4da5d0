"""Looks for texts whose signatures come to the bounds of FIPS 204: kind, shard, shards, seconds. Prints lines of a
kind, a case (as lattices.txt tells them), a text, SHA-256 of the signature."""
import sys, hashlib, time
from mldsa import *
kind=int(sys.argv[1]); shard=int(sys.argv[2]); shards=int(sys.argv[3]); limit=float(sys.argv[4])
p=PAR[kind]
pk,sk=keygen(kind,bytes([kind])*32)
S=Signer(kind,sk)
b=p['g1']-p['tau']*p['eta']; lim=p['g2']-p['tau']*p['eta']; om=p['om']
found={}
t0=time.time(); m=shard; n=0
while time.time()-t0<limit:
    x=bytes([m&255,m>>8&255,m>>16&255])
    rec=[]
    def want(i):
        rec.append(i); return i['zn']<b and i['r0']<lim and i['cn']<p['g2'] and i['ones']<=om
    sig,i,info=S.sign(x,b'',bytes(32),want=want)
    cats=[]
    last=rec[-1]
    if last['zn']==b-1: cats.append('A')
    if last['r0']==lim-1: cats.append('C')
    if last['ones']==om: cats.append('E')
    hb=sig[-p['k']:]
    if any((hb[j]==(hb[j-1] if j else 0)) for j in range(p['k'])): cats.append('Z')
    for r in rec[:-1]:
        if r['zn']==b and r['r0']<lim and r['cn']<p['g2'] and r['ones']<=om: cats.append('B')
        if r['r0']==lim and r['zn']<b and r['cn']<p['g2'] and r['ones']<=om: cats.append('D')
        if r['ones']==om+1 and r['zn']<b and r['r0']<lim and r['cn']<p['g2']: cats.append('F')
    for c in cats:
        found[c]=found.get(c,0)+1
        if found[c]<=2: print(kind,c,m,hashlib.sha256(sig).hexdigest(),flush=True)
    m+=shards; n+=1
print('#',kind,n,found,flush=True)
