"""A plain model of ML-KEM (FIPS 203)."""
import hashlib
Q=3329
PK=[dict(k=2,e1=3,du=10,dv=4),dict(k=3,e1=2,du=10,dv=4),dict(k=4,e1=2,du=11,dv=5)]
def brv(i): return int(format(i,'07b')[::-1],2)
Z=[pow(17,brv(i),Q) for i in range(128)]
G2=[pow(17,2*brv(i)+1,Q) for i in range(128)]
def ntt(f):
    f=f[:];i=1;l=128
    while l>=2:
        for s in range(0,256,2*l):
            z=Z[i];i+=1
            for j in range(s,s+l):
                t=z*f[j+l]%Q;f[j+l]=(f[j]-t)%Q;f[j]=(f[j]+t)%Q
        l//=2
    return f
def intt(f):
    f=f[:];i=127;l=2
    while l<=128:
        for s in range(0,256,2*l):
            z=Z[i];i-=1
            for j in range(s,s+l):
                t=f[j];f[j]=(t+f[j+l])%Q;f[j+l]=z*(f[j+l]-t)%Q
        l*=2
    return [x*3303%Q for x in f]
def mul(f,g):
    h=[0]*256
    for i in range(128):
        a,b,c,d=f[2*i],f[2*i+1],g[2*i],g[2*i+1]
        h[2*i]=(a*c+b*d*G2[i])%Q;h[2*i+1]=(a*d+b*c)%Q
    return h
def add(f,g): return [(a+b)%Q for a,b in zip(f,g)]
def enc(f,d):
    x=0
    for i,v in enumerate(f): x|=v<<(d*i)
    return x.to_bytes(32*d,'little')
def dec(b,d):
    x=int.from_bytes(b,'little');m=Q if d==12 else 1<<d
    return [((x>>(d*i))&((1<<d)-1))%m for i in range(256)]
def comp(f,d): return [((v<<d)+Q//2)//Q%(1<<d) for v in f]
def decomp(f,d): return [(v*Q+(1<<(d-1)))>>d for v in f]
def sample(s):
    b=hashlib.shake_128(s).digest(3*600);o=[];i=0
    while len(o)<256:
        d1=b[i]+256*(b[i+1]%16);d2=b[i+1]//16+16*b[i+2];i+=3
        if d1<Q:o.append(d1)
        if d2<Q and len(o)<256:o.append(d2)
    return o
def cbd(s,n,e):
    b=hashlib.shake_256(s+bytes([n])).digest(64*e);x=int.from_bytes(b,'little');o=[]
    for i in range(256):
        v=(x>>(2*e*i))&((1<<(2*e))-1)
        o.append((bin(v&((1<<e)-1)).count('1')-bin(v>>e).count('1'))%Q)
    return o
def keygen(kind,d,z):
    p=PK[kind];k=p['k'];g=hashlib.sha3_512(d+bytes([k])).digest();rho,sig=g[:32],g[32:]
    A=[[sample(rho+bytes([j,i])) for j in range(k)] for i in range(k)]
    s=[ntt(cbd(sig,i,p['e1'])) for i in range(k)];e=[ntt(cbd(sig,k+i,p['e1'])) for i in range(k)]
    t=[]
    for i in range(k):
        v=e[i]
        for j in range(k): v=add(v,mul(A[i][j],s[j]))
        t.append(v)
    ek=b''.join(enc(v,12) for v in t)+rho
    dk=b''.join(enc(v,12) for v in s)+ek+hashlib.sha3_256(ek).digest()+z
    return ek,dk
def pke(kind,ek,m,r):
    p=PK[kind];k=p['k'];t=[dec(ek[384*i:384*i+384],12) for i in range(k)];rho=ek[384*k:]
    A=[[sample(rho+bytes([j,i])) for j in range(k)] for i in range(k)]
    y=[ntt(cbd(r,i,p['e1'])) for i in range(k)];e1=[cbd(r,k+i,2) for i in range(k)];e2=cbd(r,2*k,2)
    c=b''
    for i in range(k):
        v=[0]*256
        for j in range(k): v=add(v,mul(A[j][i],y[j]))
        c+=enc(comp(add(intt(v),e1[i]),p['du']),p['du'])
    v=[0]*256
    for j in range(k): v=add(v,mul(t[j],y[j]))
    mu=decomp(dec(m,1),1)
    return c+enc(comp(add(add(intt(v),e2),mu),p['dv']),p['dv'])
def encaps(kind,ek,m):
    g=hashlib.sha3_512(m+hashlib.sha3_256(ek).digest()).digest()
    return pke(kind,ek,m,g[32:]),g[:32]
def decaps(kind,dk,c):
    p=PK[kind];k=p['k'];s=[dec(dk[384*i:384*i+384],12) for i in range(k)];ek=dk[384*k:768*k+32];h=dk[768*k+32:768*k+64];z=dk[768*k+64:]
    u=[ntt(decomp(dec(c[32*p['du']*i:32*p['du']*(i+1)],p['du']),p['du'])) for i in range(k)]
    v=decomp(dec(c[32*p['du']*k:],p['dv']),p['dv'])
    w=[0]*256
    for j in range(k): w=add(w,mul(s[j],u[j]))
    w=[(a-b)%Q for a,b in zip(v,intt(w))]
    m=enc(comp(w,1),1)
    g=hashlib.sha3_512(m+h).digest()
    c2=pke(kind,ek,m,g[32:])
    return g[:32] if c2==c else hashlib.shake_256(z+c).digest(32)
if __name__=='__main__':
    for kind in range(3):
        h=bytes(32)
        for i in range(4):
            told=lambda j: hashlib.sha256(bytes([kind,i,j])).digest()
            ek,dk=keygen(kind,told(0),told(1)); c,K=encaps(kind,ek,told(2)); assert decaps(kind,dk,c)==K
        print('ok',kind)
