"""Numbers that are no primes but pass the test of Miller and Rabin with the first twenty primes, as Arnault makes
them: products of primes k * (p - 1) + 1 with conditions modulo the bases."""
import random, itertools
P=[2,3,5,7,11,13,17,19,23,29,31,37,41,43,47,53,59,61,67,71]
def mr(n,b):
    if n%b==0: return n==b
    d=n-1;e=0
    while d%2==0:d//=2;e+=1
    x=pow(b,d,n)
    if x in(1,n-1):return True
    for _ in range(e-1):
        x=x*x%n
        if x==n-1:return True
    return False
def isp(n):
    for p in P:
        if n%p==0:return n==p
    return all(mr(n,random.randrange(2,n-1)) for _ in range(25)) if mr(n,2) else False
def jac(a,n):
    a%=n;r=1
    while a:
        while a%2==0:
            a//=2
            if n%8 in(3,5):r=-r
        a,n=n,a
        if a%4==3 and n%4==3:r=-r
        a%=n
    return r if n==1 else 0
def sym2(p8): return 1 if p8 in (1,7) else -1
def symb(a,pm4a): # (a/p) for odd prime a given p mod 4a
    p=pm4a
    r=jac(p%a,a) if p%a else 0
    if a%4==3 and p%4==3: r=-r
    return r
def crt(rs):
    x,m=0,1
    for r,n in rs:
        # solve x+m*t = r mod n (coprime)
        t=((r-x)*pow(m,-1,n))%n
        x+=m*t; m*=n
    return x,m
random.seed(5)
def search(ks, p1mod8, want, tries=200000):
    # want: 'minus' all -1 ; 'equal' all equal
    # conditions for each base a on p1 mod a (p1 mod 8 fixed)
    opts=[]
    for a in P[1:]:
        good=[]
        for r in range(a):
            ps=[(k*(r-1)+1)%a for k in ks]
            if 0 in ps: continue
            # p_i mod 4
            sy=[]
            for k,pr in zip(ks,ps):
                p4=(k*(p1mod8-1)+1)%4
                s=jac(pr,a)
                if a%4==3 and p4==3: s=-s
                sy.append(s)
            if (want=='minus' and all(s==-1 for s in sy)) or (want=='equal' and len(set(sy))==1): good.append(r)
        opts.append((a,good))
    sy2=[sym2((k*(p1mod8-1)+1)%8) for k in ks]
    if (want=='minus' and any(s!=-1 for s in sy2)) or len(set(sy2))!=1: return None
    # Carmichael conditions modulo each k_j
    byprime={}
    for j,k in enumerate(ks):
        if k==1: continue
        sols=[]
        for x in range(k):
            v=1
            for i,kk in enumerate(ks):
                if i!=j: v=v*(1+kk*x) # exact polynomial; need (v-1)/x mod k
            # compute via elementary symmetric
            others=[kk for i,kk in enumerate(ks) if i!=j]
            val=0
            for d in range(1,len(others)+1):
                e=sum(__import__('math').prod(c) for c in itertools.combinations(others,d))
                val+=e*x**(d-1)
            if val%k==0: sols.append((x+1)%k)
        byprime[k]=sols
    d=dict(opts)
    for k,s in byprime.items():
        if k in d: d[k]=[r for r in d[k] if r in s]
        else: d[k]=s
    if any(not v for v in d.values()): return None
    for t in range(tries):
        rs=[(p1mod8,8)]+[(random.choice(v),a) for a,v in d.items()]
        x,m=crt(rs)
        for j in range(60):
            p1=x+m*(random.randrange(1,1<<12))
            ps=[k*(p1-1)+1 for k in ks]
            if all(isp(p) for p in ps):
                n=1
                for p in ps:n*=p
                if all(mr(n,b) for b in P): return n,ps
    return None
if __name__=='__main__':
    ks=[p for p in range(3,420) if all(p%q for q in range(2,p))]
    print(search([1,73,101],3,'minus',2000))
    print(search([1,73,151],5,'minus',2000))
    print(search([1,61,109,193],3,'equal',2000))
