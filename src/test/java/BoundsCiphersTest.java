import java.util.Arrays;
import javax.crypto.Cipher;
import javax.crypto.spec.ChaCha20ParameterSpec;
import javax.crypto.spec.GCMParameterSpec;
import javax.crypto.spec.IvParameterSpec;
import javax.crypto.spec.SecretKeySpec;

/** The boundary cases of promises 10 to 13: block ciphers and their modes, streams, sealed forms, wraps and FF1. */
public final class BoundsCiphersTest {
    private static final int LEAST = Integer.MIN_VALUE;
    private static final int MOST = Integer.MAX_VALUE;
    private static final int[] SIZES = {0, 1, 15, 16, 17, 31, 32, 33, 64, 8176};
    private static final int[] MORE = {0, 1, 13, 14, 15, 16, 17, 30, 31, 64, 8192};
    /** What is due of many calls was summed up by Python's cryptography (SIV and FF1 by plain models). */
    private static final String ALL_XTS = "a01e6c405d8a798f1455b6d3a0f8d1700d0ee958dab323897529fc1b1861ae9c";
    private static final String ALL_CCM = "12364842df4ffdf1276137c31cf0e322c3ebab8cafac88da14dbcfb6bb851c32";
    private static final String ALL_SIV = "13fd4da16ce75296ad1bbdc15f21fc0858601c26d78d68a3c0b3f2d36832ca6c";
    private static final String ALL_GCM_SIV = "2c5215100d4a457d456fb40199a70dd3357898419e769ca97ea068d9aad6b3a2";
    private static final String ALL_FF1 = "c051a38ffcd401e9caeb62f1e562ae4303f13fb56ed5fafe6a83ece20b8a7dcb";
    private static final Twin T = new Twin();

    public static void main(String[] args) throws Exception {
        blockKeys();
        blockIvs();
        blockSizes();
        counters();
        xts();
        padding();
        paddingBack();
        streams();
        sealedKeys();
        sealedNonces();
        sealedSizes();
        sealedTags();
        sealedSums();
        gcmNonces();
        wrapSizes();
        wrapsOf();
        wrapChecks();
        formats();
        T.end();
        Check.end();
    }

    private static byte[] some(int n, int number) {
        return Examples.some(n, number);
    }

    private static boolean isAes(int n) {
        return n == 16 || n == 24 || n == 32;
    }

    private static int block(int b) {
        return b == 0 ? 16 : 8;
    }

    private static byte[] goodKey(int b) {
        return some(b == 0 ? 16 : b == 1 ? 8 : 24, 1);
    }

    /** "0 AES (.. keys of 16, 24, 32 bytes), 1 DES (.. 8 ..), 2 the same thrice .. (16 ..; 24)". */
    private static void blockKeys() {
        T.told("Keys .. other than that: -1");
        for (int b = 0; b < 3; b++) {
            for (int n = 0; n <= 66; n++) {
                boolean fits = b == 0 ? isAes(n) : b == 1 ? n == 8 : n == 16 || n == 24;
                for (int mode = 0; mode < 7; mode++) {
                    if (mode == 5) {
                        continue;
                    }
                    byte[] iv = some(mode == 0 ? 0 : block(b), 2);
                    if (fits) {
                        T.made(mode == 6 ? 16 + block(b) : 16, "crypt", b, mode, 0, some(n, 1), iv, some(16, 3));
                    } else {
                        T.leaves(-1, "crypt", b, mode, n % 2, some(n, 1), iv, some(16, 3));
                    }
                }
            }
            T.leaves(-1, "crypt", b, 4, 0, some(8192, 1), some(block(b), 2), some(16, 3));
        }
        T.told("parity bits are not looked at");
        for (int i = 0; i < 8; i++) {
            byte[] key = some(8, 1);
            String x = T.made(16, "crypt", 1, 0, 0, key, "", some(16, 3));
            key[i] ^= 1;
            T.gives(x, "crypt", 1, 0, 0, key, "", some(16, 3));
            T.gives(Check.hex(some(16, 3)), "crypt", 1, 0, 1, key, "", x);
            key[i] ^= 2;
            Check.due("the other bits are", T.made(16, "crypt", 1, 0, 0, key, "", some(16, 3)).equals(x), false);
        }
        T.told("16: the first key again at last");
        byte[] two = some(16, 1);
        byte[] three = Check.join(two, Arrays.copyOf(two, 8));
        T.gives(T.made(24, "crypt", 2, 1, 0, three, some(8, 2), some(24, 3)), "crypt", 2, 1, 0, two, some(8, 2), some(24, 3));
        T.told("there, back, there");
        byte[] one = Arrays.copyOf(two, 8);
        T.gives(T.made(8, "crypt", 1, 0, 0, one, "", "0102030405060708"), "crypt", 2, 0, 0, Check.join(one, one), "", "0102030405060708");
    }

    /** "iv as long as a block but where told: 0 ECB (the iv is empty)". */
    private static void blockIvs() {
        T.told("iv as long as a block but where told");
        for (int b = 0; b < 3; b++) {
            for (int mode = 0; mode < 7; mode++) {
                byte[] key = mode == 5 ? some(32, 1) : goodKey(b);
                for (int n : new int[] {0, 1, 7, 8, 9, 12, 15, 16, 17, 24, 8192}) {
                    int due = mode == 0 ? 0 : mode == 5 ? b == 0 ? 16 : -1 : block(b);
                    if (n == due) {
                        T.made(mode == 6 ? 16 + block(b) : 16, "crypt", b, mode, 0, key, some(n, 2), some(16, 3));
                    } else {
                        T.leaves(-1, "crypt", b, mode, 0, key, some(n, 2), some(16, 3));
                        T.leaves(-1, "crypt", b, mode, 1, key, some(n, 2), some(16, 3));
                    }
                }
            }
        }
    }

    private static byte[] due(int b, int mode, boolean back, byte[] key, byte[] iv, byte[] x) throws Exception {
        String name = new String[] {"AES", "DES", "DESede"}[b];
        String[] modes = {"ECB", "CBC", "CFB", "OFB", "CTR", "", "CBC"};
        Cipher c = Cipher.getInstance(name + "/" + modes[mode] + (mode == 6 ? "/PKCS5Padding" : "/NoPadding"));
        int way = back ? Cipher.DECRYPT_MODE : Cipher.ENCRYPT_MODE;
        if (mode == 0) {
            c.init(way, new SecretKeySpec(key, name));
        } else {
            c.init(way, new SecretKeySpec(key, name), new IvParameterSpec(iv));
        }
        return c.doFinal(x);
    }

    /** "whole blocks"; "any size, the last part cut"; "ECB and CBC of no bytes give none". */
    private static void blockSizes() throws Exception {
        for (int b = 0; b < 3; b++) {
            int block = block(b);
            for (int mode = 0; mode < 5; mode++) {
                byte[] iv = some(mode == 0 ? 0 : block, 2);
                for (int i = 0; i <= 3 * block + 2; i++) {
                    int n = i <= 3 * block ? i : i == 3 * block + 1 ? 8191 : 8192;
                    byte[] x = some(n, 3);
                    for (int back = 0; back < 2; back++) {
                        if (mode < 2 && n % block != 0) {
                            T.told("whole blocks").leaves(-1, "crypt", b, mode, back, goodKey(b), iv, x);
                        } else {
                            byte[] want = due(b, mode, back == 1, goodKey(b), iv, x);
                            T.told("any size, the last part cut").gives(Check.hex(want), "crypt", b, mode, back, goodKey(b), iv, x);
                        }
                    }
                }
            }
        }
    }

    /** "4 CTR (the whole block counts up as a number, from iv on, round)". */
    private static void counters() throws Exception {
        T.told("the whole block counts up as a number, from iv on, round");
        for (int b = 0; b < 3; b++) {
            int block = block(b);
            for (int low = 0; low < 6; low++) {
                for (int whole = 0; whole <= block; whole++) {
                    // The last bytes are ff, and the very last one is so far below.
                    byte[] iv = new byte[block];
                    Arrays.fill(iv, block - whole, block, (byte) 255);
                    iv[block - 1] = (byte) (255 - low);
                    byte[] x = some(5 * block + 3, 4);
                    byte[] want = new byte[x.length];
                    java.math.BigInteger count = new java.math.BigInteger(1, iv);
                    for (int at = 0; at < x.length; at += block) {
                        byte[] c = Check.bytes(String.format("%0" + 2 * block + "x", count.mod(java.math.BigInteger.ONE.shiftLeft(8 * block))));
                        byte[] s = due(b, 0, false, goodKey(b), null, c);
                        for (int i = at; i < Math.min(x.length, at + block); i++) {
                            want[i] = (byte) (x[i] ^ s[i - at]);
                        }
                        count = count.add(java.math.BigInteger.ONE);
                    }
                    T.gives(Check.hex(want), "crypt", b, 4, 0, goodKey(b), iv, x);
                    T.gives(Check.hex(x), "crypt", b, 4, 1, goodKey(b), iv, want);
                }
            }
        }
    }

    /** "5 XTS (.. AES alone, key two keys of 16 or 32, which must differ; iv 16 bytes ..; at least 16 bytes ..)". */
    private static void xts() {
        T.told("key two keys of 16 or 32");
        for (int n = 0; n <= 66; n++) {
            for (int b = 0; b < 3; b++) {
                if (b == 0 && (n == 32 || n == 64)) {
                    T.made(16, "crypt", b, 5, 0, some(n, 1), some(16, 2), some(16, 3));
                } else {
                    T.leaves(-1, "crypt", b, 5, 0, some(n, 1), some(16, 2), some(16, 3));
                }
            }
        }
        T.told("which must differ");
        for (int n : new int[] {16, 32}) {
            byte[] key = some(n, 1);
            T.leaves(-1, "crypt", 0, 5, 0, Check.join(key, key), some(16, 2), some(16, 3));
            T.leaves(-1, "crypt", 0, 5, 1, Check.join(key, key), some(16, 2), some(16, 3));
            for (int at : new int[] {0, n / 2, n - 1}) {
                byte[] other = key.clone();
                other[at] ^= 1;
                T.made(16, "crypt", 0, 5, 0, Check.join(key, other), some(16, 2), some(16, 3));
            }
        }
        T.told("at least 16 bytes");
        for (int n = 0; n < 16; n++) {
            T.leaves(-1, "crypt", 0, 5, 0, some(32, 1), some(16, 2), some(n, 3));
            T.leaves(-1, "crypt", 0, 5, 1, some(32, 1), some(16, 2), some(n, 3));
        }
        T.told("the last two blocks as told there");
        StringBuilder all = new StringBuilder();
        for (int size : new int[] {32, 64}) {
            for (int i = 16; i < 86; i++) {
                int n = i < 82 ? i : new int[] {8176, 8177, 8191, 8192}[i - 82];
                String y = T.made(n, "crypt", 0, 5, 0, some(size, n), some(16, n + 1), some(n, n + 2));
                all.append(y);
                all.append(T.made(n, "crypt", 0, 5, 1, some(size, n), some(16, n + 1), some(n, n + 2)));
                T.gives(Check.hex(some(n, n + 2)), "crypt", 0, 5, 1, some(size, n), some(16, n + 1), y);
            }
        }
        Check.due("XTS", Check.hex(Check.sha256(Check.bytes(all.toString()))), ALL_XTS);
    }

    /** "6 CBC with PADDING: 1 .. a block bytes, each how many they are"; "-2 more than 8192 bytes would come". */
    private static void padding() throws Exception {
        T.told("1 .. a block bytes, each how many they are");
        for (int b = 0; b < 3; b++) {
            int block = block(b);
            for (int i = 0; i <= 2 * block + block; i++) {
                int n = i <= 2 * block ? i : 8191 - (i - 2 * block - 1);
                byte[] x = some(n, 3);
                byte[] want = due(b, 6, false, goodKey(b), some(block, 2), x);
                T.gives(Check.hex(want), "crypt", b, 6, 0, goodKey(b), some(block, 2), x);
                T.gives(Check.hex(x), "crypt", b, 6, 1, goodKey(b), some(block, 2), want);
            }
            T.told("-2 more than 8192 bytes would come");
            T.leaves(-2, "crypt", b, 6, 0, goodKey(b), some(block, 2), some(8192, 1));
            T.leaves(-1, "crypt", b, 6, 0, some(15, 1), some(block, 2), some(8192, 1));
            T.leaves(-1, "crypt", b, 6, 0, goodKey(b), some(block + 1, 2), some(8192, 1));
        }
    }

    /** "back: whole blocks, at least one (else -1), and such a padding, else -3". */
    private static void paddingBack() throws Exception {
        for (int b = 0; b < 3; b++) {
            int block = block(b);
            byte[] iv = some(block, 2);
            T.told("whole blocks, at least one (else -1)");
            for (int n = 0; n <= 3 * block; n++) {
                if (n % block != 0 || n == 0) {
                    T.leaves(-1, "crypt", b, 6, 1, goodKey(b), iv, some(n, 4));
                }
            }
            T.leaves(-1, "crypt", b, 6, 1, goodKey(b), iv, some(8191, 4));
            T.told("and such a padding, else -3");
            for (int last = 0; last < 256; last++) {
                byte[] x = new byte[2 * block];
                Arrays.fill(x, (byte) last);
                byte[] y = due(b, 1, false, goodKey(b), iv, x);
                if (last >= 1 && last <= block) {
                    T.gives(Check.hex(Arrays.copyOf(x, 2 * block - last)), "crypt", b, 6, 1, goodKey(b), iv, y);
                } else {
                    T.leaves(-3, "crypt", b, 6, 1, goodKey(b), iv, y);
                }
            }
            for (int rest = 1; rest <= block; rest++) {
                for (int at = 0; at < 2 * block; at++) {
                    byte[] x = new byte[2 * block];
                    Arrays.fill(x, 2 * block - rest, 2 * block, (byte) rest);
                    x[at] ^= 1;
                    byte[] y = due(b, 1, false, goodKey(b), iv, x);
                    boolean ends = at < 2 * block - rest;
                    // Where only the last byte counts, it may tell another padding.
                    boolean one = at == 2 * block - 1 && x[at] == 1;
                    if (ends || one) {
                        int left = one ? 2 * block - 1 : 2 * block - rest;
                        T.gives(Check.hex(Arrays.copyOf(x, left)), "crypt", b, 6, 1, goodKey(b), iv, y);
                    } else {
                        T.leaves(-3, "crypt", b, 6, 1, goodKey(b), iv, y);
                    }
                }
            }
            byte[] none = new byte[block];
            Arrays.fill(none, (byte) block);
            T.gives("", "crypt", b, 6, 1, goodKey(b), iv, due(b, 1, false, goodKey(b), iv, none));
            T.leaves(-3, "crypt", b, 6, 1, goodKey(b), iv, due(b, 1, false, goodKey(b), iv, new byte[8192]));
        }
    }

    /** "CHACHA20 (RFC 8439): key 32, nonce 12 bytes, the counter any int (without a sign; it goes round)." */
    private static void streams() throws Exception {
        T.told("key 32, nonce 12 bytes");
        for (int n = 0; n <= 40; n++) {
            if (n != 32) {
                T.leaves(-1, "stream", some(n, 1), some(12, 2), 1, "00");
            }
            if (n != 12) {
                T.leaves(-1, "stream", some(32, 1), some(n, 2), 1, "00");
            }
        }
        T.leaves(-1, "stream", some(8192, 1), some(12, 2), 1, "00");
        T.told("the counter any int (without a sign; it goes round)");
        for (int count : new int[] {0, 1, 2, MOST - 1, MOST, LEAST, LEAST + 1, -3, -2, -1}) {
            byte[] want = new byte[300];
            for (int i = 0; i < 5; i++) {
                Cipher c = Cipher.getInstance("ChaCha20");
                c.init(Cipher.ENCRYPT_MODE, new SecretKeySpec(some(32, 1), "ChaCha20"), new ChaCha20ParameterSpec(some(12, 2), count + i));
                System.arraycopy(c.doFinal(new byte[64]), 0, want, 64 * i, Math.min(64, 300 - 64 * i));
            }
            T.gives(Check.hex(want), "stream", some(32, 1), some(12, 2), count, new byte[300]);
            for (int n : new int[] {0, 1, 63, 64, 65, 127, 128}) {
                T.gives(Check.hex(Arrays.copyOf(want, n)), "stream", some(32, 1), some(12, 2), count, new byte[n]);
            }
        }
        String full = T.made(8192, "stream", some(32, 1), some(12, 2), -1, new byte[8192]);
        T.gives(full.substring(128), "stream", some(32, 1), some(12, 2), 0, new byte[8128]);
    }

    private static byte[] sealedKey(int kind) {
        return some(kind == 2 || kind == 4 ? 32 : 16, 1);
    }

    private static boolean keyFits(int kind, int n) {
        return kind == 2 ? n == 32 || n == 48 || n == 64 : kind == 3 ? n == 16 || n == 32 : kind == 4 ? n == 32 : isAes(n);
    }

    /** "2 AES-SIV (.. key 32, 48, 64 ..), 3 AES-GCM-SIV (.. key 16, 32 ..), 4 CHACHA20-POLY1305 (.. key 32 ..). AES keys as above." */
    private static void sealedKeys() {
        T.told("AES keys as above");
        for (int kind = 0; kind < 5; kind++) {
            for (int n = 0; n <= 66; n++) {
                if (keyFits(kind, n)) {
                    String y = T.made(36, "seal", kind, some(n, 1), some(12, 2), some(5, 3), some(20, 4));
                    T.gives(Check.hex(some(20, 4)), "open", kind, some(n, 1), some(12, 2), some(5, 3), y);
                } else {
                    T.leaves(-1, "seal", kind, some(n, 1), some(12, 2), some(5, 3), some(20, 4));
                    T.leaves(-1, "open", kind, some(n, 1), some(12, 2), some(5, 3), some(20, 4));
                }
            }
            T.leaves(-1, "seal", kind, some(8192, 1), some(12, 2), some(5, 3), some(8192, 4));
        }
    }

    /** "0 AES-GCM (.. nonce 1 byte and more), 1 AES-CCM (.. nonce 7 .. 13 ..)"; "nonce 12". */
    private static void sealedNonces() {
        T.told("nonce 1 byte and more; 7 .. 13; any; 12; 12");
        for (int kind = 0; kind < 5; kind++) {
            for (int i = 0; i <= 20; i++) {
                int n = i < 20 ? i : 8192;
                boolean fits = kind == 0 ? n >= 1 : kind == 1 ? n >= 7 && n <= 13 : kind == 2 || n == 12;
                if (fits) {
                    String y = T.made(36, "seal", kind, sealedKey(kind), some(n, 2), some(5, 3), some(20, 4));
                    T.gives(Check.hex(some(20, 4)), "open", kind, sealedKey(kind), some(n, 2), some(5, 3), y);
                } else {
                    T.leaves(-1, "seal", kind, sealedKey(kind), some(n, 2), some(5, 3), some(20, 4));
                    T.leaves(-1, "open", kind, sealedKey(kind), some(n, 2), some(5, 3), some(20, 4));
                }
            }
        }
    }

    /** "opening: -1 if it is shorter than a tag"; "-2 more than 8192 bytes would come", behind -1. */
    private static void sealedSizes() {
        for (int kind = 0; kind < 5; kind++) {
            byte[] key = sealedKey(kind);
            T.told("-1 if it is shorter than a tag");
            for (int n = 0; n < 16; n++) {
                T.leaves(-1, "open", kind, key, some(12, 2), some(5, 3), some(n, 4));
            }
            T.leaves(-3, "open", kind, key, some(12, 2), some(5, 3), some(16, 4));
            T.leaves(-3, "open", kind, key, some(12, 2), some(5, 3), some(8192, 4));
            String tag = T.made(16, "seal", kind, key, some(12, 2), some(5, 3), "");
            T.gives("", "open", kind, key, some(12, 2), some(5, 3), tag);
            T.told("-2 more than 8192 bytes would come");
            String y = T.made(8192, "seal", kind, key, some(12, 2), some(8192, 3), some(8176, 4));
            T.gives(Check.hex(some(8176, 4)), "open", kind, key, some(12, 2), some(8192, 3), y);
            for (int n : new int[] {8177, 8191, 8192}) {
                T.leaves(-2, "seal", kind, key, some(12, 2), some(5, 3), some(n, 4));
                T.leaves(-1, "seal", kind, some(15, 1), some(12, 2), some(5, 3), some(n, 4));
                if (kind != 2) {
                    T.leaves(-1, "seal", kind, key, "", some(5, 3), some(n, 4));
                }
            }
        }
    }

    /** "-3 if the tag is another one": each bit of it, of the cipher, of what it was made with. */
    private static void sealedTags() {
        T.told("-3 if the tag is another one");
        for (int kind = 0; kind < 5; kind++) {
            byte[] key = sealedKey(kind);
            byte[] y = Check.bytes(T.made(35, "seal", kind, key, some(12, 2), some(18, 3), some(19, 4)));
            for (int bit = 0; bit < 8 * y.length; bit++) {
                byte[] other = y.clone();
                other[bit / 8] ^= 1 << bit % 8;
                T.leaves(-3, "open", kind, key, some(12, 2), some(18, 3), other);
            }
            for (int i = 0; i < 18; i++) {
                byte[] ad = some(18, 3);
                ad[i] ^= 128;
                T.leaves(-3, "open", kind, key, some(12, 2), ad, y);
                byte[] nonce = some(12, 2);
                nonce[i % 12] ^= 128;
                T.leaves(-3, "open", kind, key, nonce, some(18, 3), y);
            }
            T.leaves(-3, "open", kind, key, some(12, 2), some(17, 3), y);
            T.leaves(-3, "open", kind, key, some(12, 2), some(18, 3), Arrays.copyOf(y, 34));
            T.leaves(-3, "open", kind, key, some(12, 2), some(18, 3), Check.join(y, new byte[1]));
            T.leaves(-3, "open", kind, key, some(12, 2), some(18, 3), Check.join(new byte[1], y));
            Check.gives(new CryptHouse(), Check.hex(some(19, 4)), "open", kind, key, some(12, 2), some(18, 3), y);
            Check.gives(new CryptHouse(), Check.hex(y), "seal", kind, key, some(12, 2), some(18, 3), some(19, 4));
            Check.refused(new CryptHouse(), "-3", "open", kind, key, some(12, 2), some(18, 3), new byte[35]);
            T.told("kind 2: the tag ahead");
            byte[] turned = Check.join(Arrays.copyOfRange(y, 19, 35), Arrays.copyOf(y, 19));
            T.leaves(-3, "open", kind, key, some(12, 2), some(18, 3), turned);
        }
        T.told("the vector is ad, nonce, text, always these three");
        String y = T.made(16, "seal", 2, some(32, 1), "", "", "");
        Check.due("the order", T.made(17, "seal", 2, some(32, 1), "01", "", "00")
            .equals(T.made(17, "seal", 2, some(32, 1), "", "01", "00")), false);
        T.gives("", "open", 2, some(32, 1), "", "", y);
    }

    private static void sealedSums() {
        T.told("the sealed forms at their edges");
        StringBuilder all = new StringBuilder();
        for (int key : new int[] {16, 24, 32}) {
            for (int nonce = 7; nonce < 14; nonce++) {
                for (int n : SIZES) {
                    int more = MORE[(n + nonce) % MORE.length];
                    all.append(T.made(n + 16, "seal", 1, some(key, nonce), some(nonce, n), some(more, 1), some(n, key)));
                }
            }
        }
        for (int more : MORE) {
            all.append(T.made(36, "seal", 1, some(16, 1), some(13, 1), some(more, 3), some(20, 2)));
        }
        Check.due("CCM", Check.hex(Check.sha256(Check.bytes(all.toString()))), ALL_CCM);
        all.setLength(0);
        for (int key : new int[] {32, 48, 64}) {
            for (int nonce : new int[] {0, 1, 12, 15, 16, 17, 8192}) {
                for (int n : SIZES) {
                    if (n < 8176 || nonce == 12) {
                        int more = MORE[(n + nonce) % MORE.length];
                        all.append(T.made(n + 16, "seal", 2, some(key, nonce), some(nonce, n), some(more, 1), some(n, key)));
                    }
                }
            }
        }
        Check.due("SIV", Check.hex(Check.sha256(Check.bytes(all.toString()))), ALL_SIV);
        all.setLength(0);
        for (int key : new int[] {16, 32}) {
            for (int more : MORE) {
                for (int n : SIZES) {
                    all.append(T.made(n + 16, "seal", 3, some(key, more), some(12, n), some(more, 1), some(n, key)));
                }
            }
        }
        Check.due("GCM-SIV", Check.hex(Check.sha256(Check.bytes(all.toString()))), ALL_GCM_SIV);
        // RFC 8452's samples whose counter goes round.
        String zeros = "00".repeat(32);
        T.gives("f3f80f2cf0cb2dd9c5984fcda908456cc537703b5ba70324a6793a7bf218d3eaffffffff000000000000000000000000",
            "seal", 3, zeros, "00".repeat(12), "", "000000000000000000000000000000004db923dc793ee6497c76dcc03a98e108");
        T.gives("18ce4f0b8cb4d0cac65fea8f79257b20888e53e72299e56dffffffff000000000000000000000000",
            "seal", 3, zeros, "00".repeat(12), "", "eb3640277c7ffd1303c7a542d02d3e4c0000000000000000");
    }

    /** GCM of nonces of all sizes, and of such as make its counter go round; CHACHA20-POLY1305 of all sizes. */
    private static void gcmNonces() throws Exception {
        T.told("0 AES-GCM, 4 CHACHA20-POLY1305 at their edges");
        int[] nonces = {1, 7, 8, 11, 12, 13, 15, 16, 17, 31, 32, 33, 8192};
        for (int i = 0; i < nonces.length; i++) {
            for (int n : SIZES) {
                byte[] key = some(16 + 8 * (i % 3), n);
                byte[] more = some(MORE[(n + i) % MORE.length], 1);
                Cipher c = Cipher.getInstance("AES/GCM/NoPadding");
                c.init(Cipher.ENCRYPT_MODE, new SecretKeySpec(key, "AES"), new GCMParameterSpec(128, some(nonces[i], 2)));
                c.updateAAD(more);
                T.gives(Check.hex(c.doFinal(some(n, 3))), "seal", 0, key, some(nonces[i], 2), more, some(n, 3));
                c = Cipher.getInstance("ChaCha20-Poly1305");
                c.init(Cipher.ENCRYPT_MODE, new SecretKeySpec(some(32, i), "ChaCha20"), new IvParameterSpec(some(12, n)));
                c.updateAAD(more);
                T.gives(Check.hex(c.doFinal(some(n, 3))), "seal", 4, some(32, i), some(12, n), more, some(n, 3));
            }
        }
        String[][] round = {
            {"d7f64be7530950345e9d5de288272cd8", "2237c7f262a680000f48cac31a69e1443ab16d84c8cc8295d54ea6a0df32afcb"},
            {"8f1573dee7c567e37e98d2c669d48564", "1facb1dd8e9aba801f077effabb8fbff08f89a9bc2a5dba476b9d645b3a465d7"},
            {"464b0eb3fbab5a34b833120e6a8207d9", "634227a74d1313ee35708be2de962212308e414f8b3ba95b36a13c4f20b37977"}
        };
        for (String[] r : round) {
            String y = T.made(8192, "seal", 0, some(16, 5), r[0], "", some(8176, 3));
            Check.due("a counter that goes round", Check.hex(Check.sha256(Check.bytes(y))), r[1]);
        }
    }

    /** "plain (RFC 3394): 16 bytes and more, a multiple of 8; back at least 24; padded (RFC 5649): 1 byte and more; back at least 16; multiples of 8". */
    private static void wrapSizes() {
        for (int n = 0; n <= 48; n++) {
            T.told("plain: 16 bytes and more, a multiple of 8");
            if (n >= 16 && n % 8 == 0) {
                T.made(n + 8, "wrap", 0, 0, some(16, 1), some(n, 2));
            } else {
                T.leaves(-1, "wrap", 0, 0, some(16, 1), some(n, 2));
            }
            T.told("plain: back at least 24");
            T.leaves(n >= 24 && n % 8 == 0 ? -3 : -1, "wrap", 0, 1, some(16, 1), some(n, 2));
            T.told("padded: 1 byte and more");
            if (n >= 1) {
                T.made((n + 7) / 8 * 8 + 8, "wrap", 1, 0, some(16, 1), some(n, 2));
            } else {
                T.leaves(-1, "wrap", 1, 0, some(16, 1), some(n, 2));
            }
            T.told("padded: back at least 16; multiples of 8");
            T.leaves(n >= 16 && n % 8 == 0 ? -3 : -1, "wrap", 1, 1, some(16, 1), some(n, 2));
        }
        T.told("-2 more than 8192 bytes would come");
        T.made(8192, "wrap", 0, 0, some(16, 1), some(8184, 2));
        T.leaves(-2, "wrap", 0, 0, some(16, 1), some(8192, 2));
        T.leaves(-1, "wrap", 0, 0, some(16, 1), some(8191, 2));
        for (int n = 8177; n <= 8192; n++) {
            if (n <= 8184) {
                T.made(8192, "wrap", 1, 0, some(16, 1), some(n, 2));
            } else {
                T.leaves(-2, "wrap", 1, 0, some(16, 1), some(n, 2));
                T.leaves(-1, "wrap", 1, 0, some(17, 1), some(n, 2));
            }
        }
        T.leaves(-1, "wrap", 0, 0, some(20, 1), some(8192, 2));
        T.leaves(-3, "wrap", 0, 1, some(16, 1), some(8192, 2));
        T.leaves(-3, "wrap", 1, 1, some(16, 1), some(8192, 2));
        T.told("WRAPS with AES");
        for (int n = 0; n <= 40; n++) {
            if (!isAes(n)) {
                for (int i = 0; i < 4; i++) {
                    T.leaves(-1, "wrap", i & 1, i >> 1, some(n, 1), some(24, 2));
                }
            }
        }
    }

    private static void wrapsOf() throws Exception {
        T.told("WRAPS with AES");
        for (int key : new int[] {16, 24, 32}) {
            for (int n : new int[] {1, 7, 8, 9, 15, 16, 17, 23, 24, 25, 40, 8183, 8184}) {
                for (int padded = n % 8 == 0 && n >= 16 ? 0 : 1; padded < 2; padded++) {
                    Cipher c = Cipher.getInstance(padded == 1 ? "AES/KWP/NoPadding" : "AES/KW/NoPadding");
                    c.init(Cipher.WRAP_MODE, new SecretKeySpec(some(key, 1), "AES"));
                    String y = Check.hex(c.wrap(new SecretKeySpec(some(n, 2), "any")));
                    T.gives(y, "wrap", padded, 0, some(key, 1), some(n, 2));
                    T.gives(Check.hex(some(n, 2)), "wrap", padded, 1, some(key, 1), y);
                }
            }
        }
    }

    /** RFC 3394's W with any first eight bytes, which may be such as no wrap begins with. */
    private static String wrapped(byte[] key, String first, byte[] x) throws Exception {
        Cipher c = Cipher.getInstance("AES/ECB/NoPadding");
        c.init(Cipher.ENCRYPT_MODE, new SecretKeySpec(key, "AES"));
        byte[] all = Check.join(Check.bytes(first), x);
        int n = x.length / 8;
        if (n == 1) {
            return Check.hex(c.doFinal(all));
        }
        for (int t = 1; t <= 6 * n; t++) {
            int i = (t - 1) % n + 1;
            byte[] b = c.doFinal(Check.join(Arrays.copyOf(all, 8), Arrays.copyOfRange(all, 8 * i, 8 * i + 8)));
            for (int k = 0; k < 4; k++) {
                b[7 - k] ^= t >> 8 * k;
            }
            System.arraycopy(b, 0, all, 0, 8);
            System.arraycopy(b, 8, all, 8 * i, 8);
        }
        return Check.hex(all);
    }

    /** "-3 when what is checked there is not so". */
    private static void wrapChecks() throws Exception {
        T.told("-3 when what is checked there is not so");
        byte[] key = some(16, 1);
        T.gives(Check.hex(some(16, 2)), "wrap", 0, 1, key, wrapped(key, "a6".repeat(8), some(16, 2)));
        for (int bit = 0; bit < 64; bit++) {
            String other = String.format("%016x", 0xa6a6a6a6a6a6a6a6L ^ 1L << bit);
            T.leaves(-3, "wrap", 0, 1, key, wrapped(key, other, some(16, 2)));
        }
        for (int n : new int[] {8, 16, 32}) {
            for (int size = -1; size <= n + 9; size++) {
                byte[] x = new byte[n];
                for (int i = 0; i < Math.min(n, Math.max(0, size)); i++) {
                    x[i] = (byte) (i + 1);
                }
                String y = wrapped(key, "a65959a6" + String.format("%08x", size), x);
                if (size > n - 8 && size <= n) {
                    T.gives(Check.hex(Arrays.copyOf(x, size)), "wrap", 1, 1, key, y);
                } else {
                    T.leaves(-3, "wrap", 1, 1, key, y);
                }
                for (int at = Math.max(size, 0); at < n && size > n - 8; at++) {
                    byte[] other = x.clone();
                    other[at] = 1;
                    T.leaves(-3, "wrap", 1, 1, key, wrapped(key, "a65959a6" + String.format("%08x", size), other));
                }
            }
            for (int bit = 0; bit < 32; bit++) {
                String other = String.format("%08x%08x", 0xa65959a6 ^ 1 << bit, n);
                T.leaves(-3, "wrap", 1, 1, key, wrapped(key, other, new byte[n]));
                other = String.format("a65959a6%08x", n ^ 1 << bit);
                // All bytes are 0s, so that a shorter size may be right.
                if ((n ^ 1 << bit) <= n - 8 || (n ^ 1 << bit) > n) {
                    T.leaves(-3, "wrap", 1, 1, key, wrapped(key, other, new byte[n]));
                }
            }
        }
    }

    /** "the row's bytes are digits below RADIX 2 .. 256, 2 to 48 of them, and radix to their number at least 1000000; the tweak at most 64 bytes; others: -1". */
    private static void formats() {
        StringBuilder all = new StringBuilder();
        for (int radix = 2; radix <= 256; radix++) {
            int least = 2;
            for (long many = (long) radix * radix; many < 1000000; many *= radix) {
                least++;
            }
            int[] sizes = {least, least + 1, 47, 48};
            T.told("FF1, there or back");
            for (int n : sizes) {
                byte[] x = some(n, radix);
                for (int i = 0; i < n; i++) {
                    x[i] = (byte) ((x[i] & 255) % radix);
                }
                byte[] key = some(16 + 8 * (n % 3), radix);
                String y = T.made(n, "format", radix, 0, key, some(radix % 65, n), x);
                all.append(y).append(T.made(n, "format", radix, 1, key, some(radix % 65, n), x));
                T.gives(Check.hex(x), "format", radix, 1, key, some(radix % 65, n), y);
            }
            byte[] top = new byte[48];
            Arrays.fill(top, (byte) (radix - 1));
            all.append(T.made(48, "format", radix, 0, some(16, 1), "", top));
            all.append(T.made(48, "format", radix, 1, some(16, 1), some(64, 1), new byte[48]));
            T.told("radix to their number at least 1000000");
            T.leaves(-1, "format", radix, 0, some(16, 1), "", new byte[least - 1]);
            T.leaves(-1, "format", radix, 1, some(16, 1), "", new byte[least - 1]);
            T.told("2 to 48 of them");
            for (int n : new int[] {0, 1, 49, 8192}) {
                T.leaves(-1, "format", radix, 0, some(16, 1), "", new byte[n]);
            }
            T.told("digits below RADIX");
            for (int at = 0; at < 48 && radix < 256; at += 47) {
                byte[] x = new byte[48];
                x[at] = (byte) radix;
                T.leaves(-1, "format", radix, 0, some(16, 1), "", x);
                x[at] = (byte) 255;
                T.leaves(radix == 256 ? 48 : -1, "format", radix, 1, some(16, 1), "", x);
            }
        }
        Check.due("FF1", Check.hex(Check.sha256(Check.bytes(all.toString()))), ALL_FF1);
        T.told("RADIX 2 .. 256");
        for (int radix : new int[] {1, 0, -1, -2, 257, 65536, LEAST, MOST}) {
            T.leaves(-1, "format", radix, 0, some(16, 1), "", new byte[48]);
            T.leaves(-1, "format", radix, 1, some(16, 1), "", new byte[48]);
        }
        T.told("the tweak at most 64 bytes");
        T.made(48, "format", 10, 0, some(16, 1), some(64, 1), new byte[48]);
        T.leaves(-1, "format", 10, 0, some(16, 1), some(65, 1), new byte[48]);
        T.leaves(-1, "format", 10, 1, some(16, 1), some(8192, 1), new byte[48]);
        T.told("FF1 with AES");
        for (int n = 0; n <= 40; n++) {
            if (!isAes(n)) {
                T.leaves(-1, "format", 10, 0, some(n, 1), "", new byte[48]);
            }
        }
    }
}
