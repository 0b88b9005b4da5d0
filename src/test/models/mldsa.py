"""A plain model of ML-DSA (FIPS 204), whose signer may be told to take what it should not. It needs numpy; run by
itself, it is compared with OpenSSL by the package cryptography."""
import hashlib, numpy as np
Q=8380417
def shake256(b,n): return hashlib.shake_256(b).digest(n)
PAR=[dict(k=4,l=4,eta=2,tau=39,g1=1<<17,g2=(Q-1)//88,om=80,lam=128),
     dict(k=6,l=5,eta=4,tau=49,g1=1<<19,g2=(Q-1)//32,om=55,lam=192),
     dict(k=8,l=7,eta=2,tau=60,g1=1<<19,g2=(Q-1)//32,om=75,lam=256)]
def brv(i): return int(format(i,'08b')[::-1],2)
ZET=[pow(1753,brv(i),Q) for i in range(256)]
def ntt(f):
    f=np.array(f,dtype=np.int64)%Q; m=0; ln=128
    while ln>=1:
        g=f.reshape(-1,2,ln)
        nb=g.shape[0]
        z=np.array(ZET[m+1:m+1+nb],dtype=np.int64)[:,None]; m+=nb
        t=z*g[:,1,:]%Q
        a=(g[:,0,:]+t)%Q; b=(g[:,0,:]-t)%Q
        f=np.stack([a,b],axis=1).reshape(256); ln//=2
    return f
def intt(f):
    f=np.array(f,dtype=np.int64); m=256; ln=1
    while ln<256:
        g=f.reshape(-1,2,ln); nb=g.shape[0]
        z=np.array([-ZET[i] for i in range(m-1,m-1-nb,-1)],dtype=np.int64)[:,None]; m-=nb
        a=(g[:,0,:]+g[:,1,:])%Q; b=z*(g[:,0,:]-g[:,1,:])%Q
        f=np.stack([a,b],axis=1).reshape(256); ln*=2
    return f*8347681%Q
def bits(vals,w):
    x=0
    for i,v in enumerate(vals): x|=int(v)<<(w*i)
    return x.to_bytes(len(vals)*w//8,'little')
def unbits(b,w):
    x=int.from_bytes(b,'little'); m=(1<<w)-1
    return np.array([(x>>(w*i))&m for i in range(len(b)*8//w)],dtype=np.int64)
def rejntt(seed):
    b=hashlib.shake_128(seed).digest(3*400); o=[];i=0
    while len(o)<256:
        v=b[i]|b[i+1]<<8|(b[i+2]&127)<<16; i+=3
        if v<Q:o.append(v)
    return np.array(o,dtype=np.int64)
def expandA(rho,p): return [[rejntt(rho+bytes([s,r])) for s in range(p['l'])] for r in range(p['k'])]
def rejeta(seed,eta):
    b=shake256(seed,1000);o=[]
    for x in b:
        for h in (x&15,x>>4):
            if eta==2 and h<15:o.append(2-h%5)
            elif eta==4 and h<9:o.append(4-h)
    return np.array(o[:256],dtype=np.int64)
def cent(v):
    v=v%Q
    return np.where(v>Q//2,v-Q,v)
def power2round(r):
    r=r%Q; r0=r%(1<<13); r0=np.where(r0>(1<<12),r0-(1<<13),r0)
    return (r-r0)>>13,r0
def decompose(r,g2):
    r=r%Q; r0=r%(2*g2); r0=np.where(r0>g2,r0-2*g2,r0)
    top=(r-r0)==Q-1
    r1=np.where(top,0,(r-r0)//(2*g2)); r0=np.where(top,r0-1,r0)
    return r1,r0
def keygen(kind,xi):
    p=PAR[kind]; s=shake256(xi+bytes([p['k'],p['l']]),128); rho,rp,K=s[:32],s[32:96],s[96:]
    A=expandA(rho,p)
    s1=[rejeta(rp+i.to_bytes(2,'little'),p['eta']) for i in range(p['l'])]
    s2=[rejeta(rp+(p['l']+i).to_bytes(2,'little'),p['eta']) for i in range(p['k'])]
    s1h=[ntt(x) for x in s1]
    t=[(intt(sum(A[i][j]*s1h[j]%Q for j in range(p['l']))%Q)+s2[i])%Q for i in range(p['k'])]
    t1,t0=zip(*[power2round(x) for x in t])
    pk=rho+b''.join(bits(x,10) for x in t1)
    tr=shake256(pk,64)
    w=3 if p['eta']==2 else 4
    sk=rho+K+tr+b''.join(bits(p['eta']-x,w) for x in s1)+b''.join(bits(p['eta']-x,w) for x in s2)+b''.join(bits((1<<12)-x,13) for x in t0)
    return pk,sk
def ball(seed,tau):
    b=shake256(seed,8+1000); h=int.from_bytes(b[:8],'little'); c=np.zeros(256,dtype=np.int64); k=8
    for i in range(256-tau,256):
        while b[k]>i:k+=1
        j=b[k];k+=1
        c[i]=c[j]; c[j]=-1 if (h>>(i+tau-256))&1 else 1
    return c
class Signer:
    def __init__(s,kind,sk):
        p=s.p=PAR[kind]; s.kind=kind
        s.rho,s.K,s.tr=sk[:32],sk[32:64],sk[64:128]
        w=3 if p['eta']==2 else 4; at=128
        def take(n,ww):
            nonlocal at
            r=[]
            for _ in range(n):
                r.append(unbits(sk[at:at+32*ww],ww)); at+=32*ww
            return r
        s.s1=[ntt(p['eta']-x) for x in take(p['l'],w)]
        s.s2=[ntt(p['eta']-x) for x in take(p['k'],w)]
        s.t0=[ntt((1<<12)-x) for x in take(p['k'],13)]
        assert at==len(sk)
        s.A=expandA(s.rho,p)
    def sign(s,x,ctx,rnd,tries=814,want=None,onlytry=None):
        """want(info) decides instead of the usual checks; answers (signature, index)"""
        p=s.p; mu=shake256(s.tr+bytes([0,len(ctx)])+ctx+x,64)
        rpp=shake256(s.K+rnd+mu,64); g1,g2=p['g1'],p['g2']; beta=p['tau']*p['eta']
        zb=18 if g1==1<<17 else 20; wb=6 if g2==(Q-1)//88 else 4
        for i in range(tries):
            kap=i*p['l']
            y=[g1-unbits(shake256(rpp+(kap+r).to_bytes(2,'little'),32*zb),zb) for r in range(p['l'])]
            yh=[ntt(v) for v in y]
            w=[intt(sum(s.A[r][c]*yh[c]%Q for c in range(p['l']))%Q) for r in range(p['k'])]
            w1=[decompose(v,g2)[0] for v in w]
            ct=shake256(mu+b''.join(bits(v,wb) for v in w1),p['lam']//4)
            c=ntt(ball(ct,p['tau']))
            z=[cent(y[j]+intt(c*s.s1[j]%Q)) for j in range(p['l'])]
            zn=max(int(np.abs(v).max()) for v in z)
            r=[(w[j]-intt(c*s.s2[j]%Q))%Q for j in range(p['k'])]
            r0=max(int(np.abs(decompose(v,g2)[1]).max()) for v in r)
            if want is None and (zn>=g1-beta or r0>=g2-beta): continue
            c0=[cent(intt(c*s.t0[j]%Q)) for j in range(p['k'])]
            cn=max(int(np.abs(v).max()) for v in c0)
            h=[(decompose(r[j],g2)[0]!=decompose((r[j]+c0[j])%Q,g2)[0]).astype(int) for j in range(p['k'])]
            ones=int(sum(v.sum() for v in h))
            if want is None:
                if cn>=g2 or ones>p['om']: continue
            elif not want(dict(zn=zn,r0=r0,cn=cn,ones=ones,b=g1-beta,om=p['om'],lim=g2-beta)): continue
            hb=bytearray(p['om']+p['k']); n=0
            for j in range(p['k']):
                for q in np.nonzero(h[j])[0]: hb[n]=int(q); n+=1
                hb[p['om']+j]=n
            return ct+b''.join(bits(g1-v,zb) for v in z)+bytes(hb), i, dict(zn=zn,ones=ones,r0=r0,cn=cn)
        return None,tries,None
if __name__=='__main__':
    import os
    from cryptography.hazmat.primitives.asymmetric import mldsa
    for kind,cl in enumerate(['MLDSA44','MLDSA65','MLDSA87']):
        xi=os.urandom(32); pk,sk=keygen(kind,xi)
        K=getattr(mldsa,cl+'PrivateKey').from_seed_bytes(xi)
        assert K.public_key().public_bytes_raw()==pk
        sig,i,info=Signer(kind,sk).sign(b'abc',b'xy',bytes(32))
        K.public_key().verify(sig,b'abc',b'xy')
        print(kind,i,info)
