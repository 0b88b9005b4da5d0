/** A plain model of KECCAK, as FIPS 202 and SP 800-185 tell it: SHAKE and KMAC. */
final class Sponge {
    private Sponge() {
    }

    private static void permute(long[][] a) {
        int lfsr = 1;
        for (int round = 0; round < 24; round++) {
            long[] c = new long[5];
            for (int x = 0; x < 5; x++) {
                for (int y = 0; y < 5; y++) {
                    c[x] ^= a[x][y];
                }
            }
            for (int x = 0; x < 5; x++) {
                for (int y = 0; y < 5; y++) {
                    a[x][y] ^= c[(x + 4) % 5] ^ Long.rotateLeft(c[(x + 1) % 5], 1);
                }
            }
            int x = 1;
            int y = 0;
            long held = a[1][0];
            for (int t = 0; t < 24; t++) {
                int next = (2 * x + 3 * y) % 5;
                x = y;
                y = next;
                long moved = Long.rotateLeft(held, (t + 1) * (t + 2) / 2 % 64);
                held = a[x][y];
                a[x][y] = moved;
            }
            for (y = 0; y < 5; y++) {
                long[] row = new long[5];
                for (x = 0; x < 5; x++) {
                    row[x] = a[x][y];
                }
                for (x = 0; x < 5; x++) {
                    a[x][y] = row[x] ^ ~row[(x + 1) % 5] & row[(x + 2) % 5];
                }
            }
            for (int j = 0; j < 7; j++) {
                if ((lfsr & 1) != 0) {
                    a[0][0] ^= 1L << (1 << j) - 1;
                }
                lfsr = lfsr << 1 ^ (lfsr >> 7) * 0x171;
            }
        }
    }

    private static byte[] sponge(int rate, byte[] x, int suffix, int n) {
        byte[] padded = new byte[(x.length / rate + 1) * rate];
        System.arraycopy(x, 0, padded, 0, x.length);
        padded[x.length] ^= (byte) suffix;
        padded[padded.length - 1] ^= (byte) 128;
        long[][] a = new long[5][5];
        for (int at = 0; at < padded.length; at += rate) {
            for (int i = 0; i < rate; i++) {
                a[i / 8 % 5][i / 40] ^= (padded[at + i] & 255L) << 8 * (i % 8);
            }
            permute(a);
        }
        byte[] out = new byte[n];
        for (int i = 0; i < n; i++) {
            int k = i % rate;
            if (k == 0 && i > 0) {
                permute(a);
            }
            out[i] = (byte) (a[k / 8 % 5][k / 40] >>> 8 * (k % 8));
        }
        return out;
    }

    static byte[] shake(boolean wide, byte[] x, int n) {
        return sponge(wide ? 136 : 168, x, 31, n);
    }

    private static byte[] number(long v, boolean left) {
        byte[] b = new byte[0];
        for (long rest = v; rest > 0 || b.length == 0; rest >>= 8) {
            b = Check.join(new byte[] {(byte) rest}, b);
        }
        byte[] count = {(byte) b.length};
        return left ? Check.join(count, b) : Check.join(b, count);
    }

    private static byte[] text(byte[] b) {
        return Check.join(number(8L * b.length, true), b);
    }

    private static byte[] filled(int rate, byte[] b) {
        byte[] all = Check.join(number(rate, true), b);
        return java.util.Arrays.copyOf(all, (all.length + rate - 1) / rate * rate);
    }

    static byte[] kmac(boolean wide, byte[] key, byte[] x, int n) {
        int rate = wide ? 136 : 168;
        byte[] name = filled(rate, Check.join(text("KMAC".getBytes()), text(new byte[0])));
        return sponge(rate, Check.join(name, filled(rate, text(key)), x, number(8L * n, false)), 4, n);
    }
}
