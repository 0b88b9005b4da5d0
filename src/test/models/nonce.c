/* Looks for bytes to put behind RFC 6979's nonce (P-256, SHA-256) so that the first number is the order or more:
   shard, shards, secret, hash of the text. gcc -O3 -msha -msse4.1 -mssse3; some 2^32 tries. */
#include <stdio.h>
#include <stdint.h>
#include <string.h>
#include <stdlib.h>
#include <immintrin.h>
static const uint32_t K[64] __attribute__((aligned(16)))={
0x428a2f98,0x71374491,0xb5c0fbcf,0xe9b5dba5,0x3956c25b,0x59f111f1,0x923f82a4,0xab1c5ed5,0xd807aa98,0x12835b01,0x243185be,0x550c7dc3,0x72be5d74,0x80deb1fe,0x9bdc06a7,0xc19bf174,0xe49b69c1,0xefbe4786,0x0fc19dc6,0x240ca1cc,0x2de92c6f,0x4a7484aa,0x5cb0a9dc,0x76f988da,0x983e5152,0xa831c66d,0xb00327c8,0xbf597fc7,0xc6e00bf3,0xd5a79147,0x06ca6351,0x14292967,0x27b70a85,0x2e1b2138,0x4d2c6dfc,0x53380d13,0x650a7354,0x766a0abb,0x81c2c92e,0x92722c85,0xa2bfe8a1,0xa81a664b,0xc24b8b70,0xc76c51a3,0xd192e819,0xd6990624,0xf40e3585,0x106aa070,0x19a4c116,0x1e376c08,0x2748774c,0x34b0bcb5,0x391c0cb3,0x4ed8aa4a,0x5b9cca4f,0x682e6ff3,0x748f82ee,0x78a5636f,0x84c87814,0x8cc70208,0x90befffa,0xa4506ceb,0xbef9a3f7,0xc67178f2};
static inline void comp(uint32_t st[8], const uint8_t *data){
 __m128i S0,S1,MSG,T,M[4],A,C; const __m128i MASK=_mm_set_epi64x(0x0c0d0e0f08090a0bULL,0x0405060700010203ULL);
 T=_mm_loadu_si128((const __m128i*)&st[0]); S1=_mm_loadu_si128((const __m128i*)&st[4]);
 T=_mm_shuffle_epi32(T,0xB1); S1=_mm_shuffle_epi32(S1,0x1B); S0=_mm_alignr_epi8(T,S1,8); S1=_mm_blend_epi16(S1,T,0xF0);
 A=S0;C=S1;
 for(int i=0;i<4;i++) M[i]=_mm_shuffle_epi8(_mm_loadu_si128((const __m128i*)(data+16*i)),MASK);
 for(int i=0;i<16;i++){
  MSG=_mm_add_epi32(M[i&3],_mm_load_si128((const __m128i*)&K[4*i]));
  S1=_mm_sha256rnds2_epu32(S1,S0,MSG);
  if(i<12){ __m128i x=_mm_sha256msg1_epu32(M[i&3],M[(i+1)&3]); x=_mm_add_epi32(x,_mm_alignr_epi8(M[(i+3)&3],M[(i+2)&3],4)); M[i&3]=_mm_sha256msg2_epu32(x,M[(i+3)&3]); }
  MSG=_mm_shuffle_epi32(MSG,0x0E); S0=_mm_sha256rnds2_epu32(S0,S1,MSG);
 }
 S0=_mm_add_epi32(S0,A); S1=_mm_add_epi32(S1,C);
 T=_mm_shuffle_epi32(S0,0x1B); S1=_mm_shuffle_epi32(S1,0xB1); S0=_mm_blend_epi16(T,S1,0xF0); S1=_mm_alignr_epi8(S1,T,8);
 _mm_storeu_si128((__m128i*)&st[0],S0); _mm_storeu_si128((__m128i*)&st[4],S1);
}
static const uint32_t IV[8]={0x6a09e667,0xbb67ae85,0x3c6ef372,0xa54ff53a,0x510e527f,0x9b05688c,0x1f83d9ab,0x5be0cd19};
static void be(uint8_t*o,const uint32_t*s){for(int i=0;i<8;i++){o[4*i]=s[i]>>24;o[4*i+1]=s[i]>>16;o[4*i+2]=s[i]>>8;o[4*i+3]=s[i];}}
typedef struct{uint32_t in[8],out[8];}HK;
static void setkey(HK*h,const uint8_t*k){uint8_t b[64];for(int i=0;i<64;i++)b[i]=(i<32?k[i]:0)^0x36;memcpy(h->in,IV,32);comp(h->in,b);for(int i=0;i<64;i++)b[i]^=0x36^0x5c;memcpy(h->out,IV,32);comp(h->out,b);}
static void pad(uint8_t*b,int n,int total){b[n]=0x80;memset(b+n+1,0,64-n-1);uint64_t l=8ULL*total;for(int i=0;i<8;i++)b[63-i]=l>>(8*i);}
static void outer(HK*h,uint32_t*s,uint8_t*o){uint8_t b[64];be(b,s);pad(b,32,96);uint32_t t[8];memcpy(t,h->out,32);comp(t,b);be(o,t);}
static void mac32(HK*h,const uint8_t*m,uint8_t*o){uint8_t b[64];memcpy(b,m,32);pad(b,32,96);uint32_t s[8];memcpy(s,h->in,32);comp(s,b);outer(h,s,o);}
// V(32) mark x(32) h(32) more(4) =101
static void mac101(HK*h,const uint8_t*m,uint8_t*o){uint8_t b[64];uint32_t s[8];memcpy(s,h->in,32);comp(s,m);memcpy(b,m+64,37);pad(b,37,64+101);comp(s,b);outer(h,s,o);}
int main(int c,char**v){
 int shard=atoi(v[1]),shards=atoi(v[2]); uint8_t x[32],hh[32];
 for(int i=0;i<32;i++){unsigned t; sscanf(v[3]+2*i,"%2x",&t);x[i]=t; sscanf(v[4]+2*i,"%2x",&t);hh[i]=t;}
 uint8_t m[128],V[32],T[32],Kk[32]; HK k0,k; memset(Kk,0,32); setkey(&k0,Kk);
 uint64_t lim=1ULL<<32; if(c>5)lim=strtoull(v[5],0,10);
 for(uint64_t i=shard;i<lim;i+=shards){
  memset(m,1,32);m[32]=0;memcpy(m+33,x,32);memcpy(m+65,hh,32);m[97]=i>>24;m[98]=i>>16;m[99]=i>>8;m[100]=i;
  mac101(&k0,m,Kk); setkey(&k,Kk); memset(V,1,32); mac32(&k,V,V); memcpy(m,V,32); m[32]=1; mac101(&k,m,Kk); setkey(&k,Kk); mac32(&k,V,V); mac32(&k,V,T);
  if(T[0]==0xff&&T[1]==0xff&&T[2]==0xff&&T[3]==0xff){printf("%llu ",(unsigned long long)i);for(int j=0;j<32;j++)printf("%02x",T[j]);puts("");fflush(stdout);}
  if(c>6&&i==(uint64_t)shard){for(int j=0;j<32;j++)printf("%02x",T[j]);puts("");}
 }
}
