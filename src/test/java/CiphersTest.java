import java.util.Random;
import javax.crypto.Cipher;
import javax.crypto.spec.GCMParameterSpec;
import javax.crypto.spec.IvParameterSpec;
import javax.crypto.spec.SecretKeySpec;

/** Promises 10 to 13 beside the vectors: there and back, what is refused, what does not open. */
public final class CiphersTest {
    private static final Random RANDOM = new Random(2);
    private static final CryptHouse H = new CryptHouse();

    public static void main(String[] args) throws Exception {
        modes();
        modeSizes();
        padding();
        streams();
        sealed();
        sealedSizes();
        wraps();
        digits();
        Check.end();
    }

    private static byte[] some(int n) {
        byte[] b = new byte[n];
        RANDOM.nextBytes(b);
        return b;
    }

    private static String zeros(int n) {
        return "00".repeat(n);
    }

    private static void modes() throws Exception {
        String[] ciphers = {"AES", "DES", "DESede"};
        String[] names = {"ECB", "CBC", "CFB", "OFB", "CTR"};
        for (int b = 0; b < 3; b++) {
            int block = b == 0 ? 16 : 8;
            for (int keySize : b == 0 ? new int[] {16, 24, 32} : new int[] {b == 1 ? 8 : 24}) {
                for (int mode = 0; mode < 5; mode++) {
                    for (int n : new int[] {0, 1, block, 2 * block, 3 * block + 3, 160}) {
                        if (mode <= 1 && n % block != 0) {
                            continue;
                        }
                        byte[] key = some(keySize);
                        byte[] iv = mode == 0 ? new byte[0] : some(block);
                        byte[] x = some(n);
                        Cipher c = Cipher.getInstance(ciphers[b] + "/" + names[mode] + "/NoPadding");
                        if (mode == 0) {
                            c.init(Cipher.ENCRYPT_MODE, new SecretKeySpec(key, ciphers[b]));
                        } else {
                            c.init(Cipher.ENCRYPT_MODE, new SecretKeySpec(key, ciphers[b]), new IvParameterSpec(iv));
                        }
                        byte[] y = c.doFinal(x);
                        Check.gives(H, Check.hex(y), "crypt", b, mode, 0, key, iv, x);
                        Check.gives(H, Check.hex(x), "crypt", b, mode, 1, key, iv, y);
                    }
                }
            }
        }
        // The parity bits of a DES key are not looked at, and 16 bytes take the first key again at last.
        byte[] key = some(24);
        byte[] odd = key.clone();
        for (int i = 0; i < 24; i++) {
            odd[i] ^= 1;
        }
        byte[] x = some(16);
        for (int b = 1; b < 3; b++) {
            byte[] first = java.util.Arrays.copyOf(key, b == 1 ? 8 : 24);
            Check.run(H, "crypt", b, 0, 0, first, "", x);
            Check.gives(H, Check.text(H, Check.TO), "crypt", b, 0, 0, java.util.Arrays.copyOf(odd, first.length), "", x);
        }
        byte[] two = java.util.Arrays.copyOf(key, 16);
        Check.run(H, "crypt", 2, 0, 0, Check.join(two, java.util.Arrays.copyOf(key, 8)), "", x);
        Check.gives(H, Check.text(H, Check.TO), "crypt", 2, 0, 0, two, "", x);
    }

    private static void modeSizes() {
        for (int b = 0; b < 3; b++) {
            int block = b == 0 ? 16 : 8;
            int good = b == 0 ? 16 : b == 1 ? 8 : 24;
            for (int n : new int[] {0, 7, 8, 9, 15, 16, 17, 23, 24, 25, 31, 32, 33, 64}) {
                boolean fits = b == 0 ? n == 16 || n == 24 || n == 32 : b == 1 ? n == 8 : n == 16 || n == 24;
                if (!fits) {
                    Check.refused(H, "-1", "crypt", b, 1, 0, zeros(n), zeros(block), zeros(16));
                }
            }
            for (int mode = 0; mode < 7; mode++) {
                if (mode == 5) {
                    continue;
                }
                Check.refused(H, "-1", "crypt", b, mode, 0, zeros(good), zeros(mode == 0 ? block : block - 1), zeros(16));
                Check.refused(H, "-1", "crypt", b, mode, 0, zeros(good), zeros(mode == 0 ? 1 : block + 1), zeros(16));
            }
            for (int mode = 0; mode < 2; mode++) {
                Check.refused(H, "-1", "crypt", b, mode, 0, zeros(good), mode == 0 ? "" : zeros(block), zeros(block + 1));
                Check.gives(H, "", "crypt", b, mode, 1, zeros(good), mode == 0 ? "" : zeros(block), "");
            }
            Check.refused(H, "-1", "crypt", b, 5, 0, zeros(b == 0 ? 16 : 32), zeros(16), zeros(16));
        }
        String two = zeros(16) + "01".repeat(16);
        Check.refused(H, "-1", "crypt", 1, 5, 0, two, zeros(16), zeros(16));
        Check.refused(H, "-1", "crypt", 0, 5, 0, zeros(32), zeros(16), zeros(16));
        Check.refused(H, "-1", "crypt", 0, 5, 0, zeros(64), zeros(16), zeros(16));
        Check.refused(H, "-1", "crypt", 0, 5, 0, zeros(24) + "01".repeat(24), zeros(16), zeros(16));
        Check.refused(H, "-1", "crypt", 0, 5, 0, two, zeros(15), zeros(16));
        Check.refused(H, "-1", "crypt", 0, 5, 0, two, zeros(16), zeros(15));
        Check.refused(H, "-1", "crypt", 0, 5, 1, two, zeros(16), "");
        Check.due("XTS", Check.run(H, "crypt", 0, 5, 0, two, zeros(16), zeros(17)), "17");
    }

    private static void padding() {
        for (int b = 0; b < 2; b++) {
            int block = b == 0 ? 16 : 8;
            String key = zeros(block);
            String iv = zeros(block);
            for (int n = 0; n <= 2 * block; n++) {
                byte[] x = some(n);
                Check.due("padded", Check.run(H, "crypt", b, 6, 0, key, iv, x), String.valueOf(n + block - n % block));
                Check.gives(H, Check.hex(x), "crypt", b, 6, 1, key, iv, Check.get(H, Check.TO));
            }
            Check.refused(H, "-1", "crypt", b, 6, 1, key, iv, "");
            Check.refused(H, "-1", "crypt", b, 6, 1, key, iv, zeros(block + 1));
            for (String bad : new String[] {"00", String.format("%02x", block + 1), "02", "ff"}) {
                Check.run(H, "crypt", b, 1, 0, key, iv, "05".repeat(block - 1) + bad);
                Check.refused(H, "-3", "crypt", b, 6, 1, key, iv, Check.get(H, Check.TO));
            }
            Check.run(H, "crypt", b, 1, 0, key, iv, String.format("%02x", block).repeat(block));
            Check.gives(H, "", "crypt", b, 6, 1, key, iv, Check.get(H, Check.TO));
            Check.refused(H, "-2", "crypt", b, 6, 0, key, iv, zeros(8192));
            Check.refused(H, "-1", "crypt", b, 6, 0, key + "00", iv, zeros(8192));
            Check.due("padded", Check.run(H, "crypt", b, 6, 0, key, iv, zeros(8191)), "8192");
        }
    }

    private static void streams() throws Exception {
        byte[] key = some(32);
        byte[] nonce = some(12);
        byte[] x = some(150);
        for (int count : new int[] {0, 1, -1, Integer.MAX_VALUE, Integer.MIN_VALUE}) {
            byte[] y = x.clone();
            for (int at = 0; at < y.length; at += 64) {
                Check.run(H, "stream", key, nonce, count + at / 64, new byte[64]);
                byte[] part = Check.get(H, Check.TO);
                for (int i = 0; i < 64 && at + i < y.length; i++) {
                    y[at + i] ^= part[i];
                }
            }
            Check.gives(H, Check.hex(y), "stream", key, nonce, count, x);
        }
        Check.gives(H, "", "stream", key, nonce, 0, "");
        for (int n : new int[] {0, 16, 31, 33}) {
            Check.refused(H, "-1", "stream", some(n), nonce, 0, x);
        }
        for (int n : new int[] {0, 8, 11, 13}) {
            Check.refused(H, "-1", "stream", key, some(n), 0, x);
        }
    }

    private static void sealed() throws Exception {
        int[] keys = {16, 24, 32, 48, 64};
        for (int kind = 0; kind < 5; kind++) {
            for (int n : new int[] {0, 1, 15, 16, 17, 64, 100}) {
                int size = kind == 2 ? keys[2 + n % 3] : kind == 4 ? 32 : kind == 3 ? 16 + n % 2 * 16 : keys[n % 3];
                byte[] key = some(size);
                byte[] nonce = some(12);
                byte[] ad = some(n % 40);
                byte[] x = some(n);
                Check.due("seal", Check.run(H, "seal", kind, key, nonce, ad, x), String.valueOf(n + 16));
                byte[] y = Check.get(H, Check.TO);
                if (kind == 0) {
                    Cipher c = Cipher.getInstance("AES/GCM/NoPadding");
                    c.init(Cipher.ENCRYPT_MODE, new SecretKeySpec(key, "AES"), new GCMParameterSpec(128, nonce));
                    c.updateAAD(ad);
                    Check.due("GCM", Check.hex(y), Check.hex(c.doFinal(x)));
                }
                Check.gives(H, Check.hex(x), "open", kind, key, nonce, ad, y);
                for (int i = 0; i < y.length; i += 7) {
                    byte[] other = y.clone();
                    other[i] ^= 1 << i % 8;
                    Check.refused(H, "-3", "open", kind, key, nonce, ad, other);
                }
                Check.refused(H, "-3", "open", kind, key, nonce, Check.join(ad, new byte[1]), y);
                byte[] second = nonce.clone();
                second[11] ^= 1;
                Check.refused(H, "-3", "open", kind, key, second, ad, y);
            }
        }
    }

    private static void sealedSizes() {
        int[][] nonces = {{0}, {0, 6, 14, 16}, {}, {0, 11, 13}, {0, 8, 11, 13}};
        for (int kind = 0; kind < 5; kind++) {
            for (int n : new int[] {0, 15, 16, 17, 24, 31, 32, 33, 48, 64, 65}) {
                boolean fits = kind == 2 ? n == 32 || n == 48 || n == 64
                    : kind == 4 ? n == 32 : n == 16 || n == 32 || n == 24 && kind < 3;
                if (fits) {
                    Check.due("seal", Check.run(H, "seal", kind, zeros(n), zeros(12), "", "00"), "17");
                    Check.due("seal", Check.run(H, "seal", kind, zeros(n), zeros(12), "", zeros(8176)), "8192");
                    Check.refused(H, "-2", "seal", kind, zeros(n), zeros(12), "", zeros(8177));
                    Check.refused(H, "-1", "open", kind, zeros(n), zeros(12), "", zeros(15));
                    Check.refused(H, "-1", "open", kind, zeros(n), zeros(12), "", "");
                    for (int bad : nonces[kind]) {
                        Check.refused(H, "-1", "seal", kind, zeros(n), zeros(bad), "", zeros(8177));
                        Check.refused(H, "-1", "open", kind, zeros(n), zeros(bad), "", zeros(16));
                    }
                } else {
                    Check.refused(H, "-1", "seal", kind, zeros(n), zeros(12), "", zeros(8177));
                    Check.refused(H, "-1", "open", kind, zeros(n), zeros(12), "", zeros(32));
                }
            }
        }
        Check.due("GCM", Check.run(H, "seal", 0, zeros(16), "00", "", ""), "16");
        Check.due("CCM", Check.run(H, "seal", 1, zeros(16), zeros(7), "", ""), "16");
        Check.due("CCM", Check.run(H, "seal", 1, zeros(16), zeros(13), "", ""), "16");
        Check.due("SIV", Check.run(H, "seal", 2, zeros(32), "", "", ""), "16");
    }

    private static void wraps() {
        for (int n : new int[] {16, 24, 32, 40, 8184}) {
            byte[] x = some(n);
            Check.due("wrap", Check.run(H, "wrap", 0, 0, zeros(24), x), String.valueOf(n + 8));
            byte[] y = Check.get(H, Check.TO);
            Check.gives(H, Check.hex(x), "wrap", 0, 1, zeros(24), y);
            y[n / 2] ^= 4;
            Check.refused(H, "-3", "wrap", 0, 1, zeros(24), y);
        }
        for (int n : new int[] {1, 7, 8, 9, 16, 20, 8184}) {
            byte[] x = some(n);
            Check.due("wrap", Check.run(H, "wrap", 1, 0, zeros(16), x), String.valueOf((n + 7) / 8 * 8 + 8));
            byte[] y = Check.get(H, Check.TO);
            Check.gives(H, Check.hex(x), "wrap", 1, 1, zeros(16), y);
            y[n / 2] ^= 4;
            Check.refused(H, "-3", "wrap", 1, 1, zeros(16), y);
        }
        // A padded wrap is none of the plain ones, and the other way round.
        Check.run(H, "wrap", 1, 0, zeros(16), zeros(16));
        Check.refused(H, "-3", "wrap", 0, 1, zeros(16), Check.get(H, Check.TO));
        Check.run(H, "wrap", 0, 0, zeros(16), zeros(16));
        Check.refused(H, "-3", "wrap", 1, 1, zeros(16), Check.get(H, Check.TO));
        for (int n : new int[] {0, 8, 15, 17, 23}) {
            Check.refused(H, "-1", "wrap", 0, 0, zeros(16), zeros(n));
            Check.refused(H, "-1", "wrap", 0, 1, zeros(16), zeros(n));
        }
        Check.refused(H, "-1", "wrap", 0, 1, zeros(16), zeros(16));
        Check.refused(H, "-1", "wrap", 1, 0, zeros(16), "");
        for (int n : new int[] {0, 8, 15, 17, 23}) {
            Check.refused(H, "-1", "wrap", 1, 1, zeros(16), zeros(n));
        }
        Check.refused(H, "-2", "wrap", 0, 0, zeros(16), zeros(8192));
        Check.refused(H, "-2", "wrap", 1, 0, zeros(16), zeros(8185));
        Check.refused(H, "-1", "wrap", 1, 0, zeros(17), zeros(8185));
        Check.refused(H, "-1", "wrap", 0, 1, zeros(8), zeros(24));
    }

    private static void digits() {
        for (int radix : new int[] {2, 3, 10, 26, 255, 256}) {
            int least = 2;
            for (long many = (long) radix * radix; many < 1000000; many *= radix) {
                least++;
            }
            for (int n : new int[] {least, 47, 48}) {
                byte[] x = new byte[n];
                for (int i = 0; i < n; i++) {
                    x[i] = (byte) RANDOM.nextInt(radix);
                }
                byte[] key = some(16);
                byte[] tweak = some(n);
                Check.due("format", Check.run(H, "format", radix, 0, key, tweak, x), String.valueOf(n));
                byte[] y = Check.get(H, Check.TO);
                Check.gives(H, Check.hex(x), "format", radix, 1, key, tweak, y);
                if (radix < 256) {
                    x[n / 2] = (byte) radix;
                    Check.refused(H, "-1", "format", radix, 0, key, tweak, x);
                }
            }
            Check.refused(H, "-1", "format", radix, 0, zeros(16), "", zeros(least - 1));
            Check.refused(H, "-1", "format", radix, 0, zeros(16), "", zeros(49));
            Check.refused(H, "-1", "format", radix, 0, zeros(15), "", zeros(48));
            Check.refused(H, "-1", "format", radix, 0, zeros(16), zeros(65), zeros(48));
            Check.due("format", Check.run(H, "format", radix, 0, zeros(16), zeros(64), zeros(48)), "48");
        }
        for (int radix : new int[] {1, 0, -1, 257, Integer.MAX_VALUE, Integer.MIN_VALUE}) {
            Check.refused(H, "-1", "format", radix, 0, zeros(16), "", zeros(48));
        }
        // SP 800-38G's first sample.
        String key = "2b7e151628aed2a6abf7158809cf4f3c";
        Check.gives(H, "02040303040707040804", "format", 10, 0, key, "", "00010203040506070809");
        Check.refused(H, "-1", "format", 10, 0, key, "", "");
        Check.refused(H, "-1", "format", 1000, 0, key, "", "00");
    }
}
