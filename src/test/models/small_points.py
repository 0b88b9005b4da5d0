"""Points of the curves 0 .. 2 with a small x, and all that have a small y."""
C=[(2**256-2**224+2**192+2**96-1,-3,0x5ac635d8aa3a93e7b3ebbd55769886bc651d06b0cc53b0f63bce3c3e27d2604b,32),
(2**384-2**128-2**96+2**32-1,-3,0xb3312fa7e23ee7e4988e056be3f82d19181d9c6efe8141120314088f5013875ac656398d8a2ed19d2a85c8edd3ec2aef,48),
(2**256-2**32-977,0,7,32)]
def mulmod(f,g,m,p):
    r=[0]*(len(f)+len(g)-1)
    for i,a in enumerate(f):
        for j,b in enumerate(g): r[i+j]=(r[i+j]+a*b)%p
    return rem(r,m,p)
def rem(r,m,p):
    r=r[:];inv=pow(m[-1],-1,p)
    while len(r)>=len(m):
        c=r[-1]*inv%p
        for i in range(len(m)): r[len(r)-len(m)+i]=(r[len(r)-len(m)+i]-c*m[i])%p
        r.pop()
        
    while r and r[-1]==0:r.pop()
    return r
def gcd(a,b,p):
    while b: a,b=b,rem(a,b,p)
    return a
def roots(f,p):
    # x^p - x
    r=[1];b=[0,1];e=p
    while e:
        if e&1:r=mulmod(r,b,f,p)
        b=mulmod(b,b,f,p);e>>=1
    r=r+[0]*(2-len(r)); r[1]=(r[1]-1)%p
    while r and r[-1]==0:r.pop()
    g=gcd(f,r,p) if r else f
    return split(g,p)
def split(g,p):
    import random
    if len(g)<2:return []
    if len(g)==2:return [(-g[0]*pow(g[1],-1,p))%p]
    while True:
        b=[random.randrange(p),1];r=[1];e=(p-1)//2
        bb=rem(b,g,p)
        while e:
            if e&1:r=mulmod(r,bb,g,p)
            bb=mulmod(bb,bb,g,p);e>>=1
        r=(r+[0])[:max(1,len(r))]; r[0]=(r[0]-1)%p
        while r and r[-1]==0:r.pop()
        if not r: continue
        h=gcd(g,r,p)
        if 1<len(h)<len(g):
            q=[];rr=g[:]
            # divide g by h
            inv=pow(h[-1],-1,p)
            qd=[0]*(len(g)-len(h)+1)
            while len(rr)>=len(h):
                c=rr[-1]*inv%p; qd[len(rr)-len(h)]=c
                for i in range(len(h)): rr[len(rr)-len(h)+i]=(rr[len(rr)-len(h)+i]-c*h[i])%p
                rr.pop()
            return split(h,p)+split(qd,p)
for c,(p,a,b,w) in enumerate(C):
    for x in range(0,100):
        v=(x**3+a*x+b)%p; y=pow(v,(p+1)//4,p)
        if y*y%p==v: print(c,'small x',x,hex(y)); break
    y=1;found=0
    while True:
        rs=roots([(b-y*y)%p,a%p,0,1],p)
        if rs:
            for x in rs: assert (x**3+a*x+b-y*y)%p==0
            print(c,'small y',y,[hex(x) for x in rs]); found+=1
            if found>=(2 if len(rs)<3 else 1) or len(rs)==3: 
                if len(rs)==3: break
        y+=1
        if y>40: break
    print(p%3)
