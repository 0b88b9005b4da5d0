import java.math.BigInteger;
import java.util.Random;

/** The boundary cases of edwards25519 (promises 15 to 18): its points, X25519, Ed25519, hybrid sealing. */
public final class BoundsEdwardsTest {
    private static final BigInteger ZERO = BigInteger.ZERO;
    private static final BigInteger ONE = BigInteger.ONE;
    private static final BigInteger TWO = BigInteger.TWO;
    private static final BigInteger P = Twisted.P;
    private static final BigInteger L = Twisted.L;
    private static final Random RANDOM = new Random(61);
    private static final Twin T = new Twin();

    public static void main(String[] args) throws Exception {
        decoded();
        sums();
        scalars();
        exchanges();
        ladderSamples();
        secretSizes();
        signatures();
        smallParts();
        notBelow();
        hybridSample();
        hybridLimits();
        hybridZeros();
        T.end();
        Check.end();
    }

    private static String some(int n) {
        byte[] b = new byte[n];
        RANDOM.nextBytes(b);
        return Check.hex(b);
    }

    private static void none(String bad) {
        String base = Twisted.encoded(Twisted.BASE);
        T.leaves(-3, "point", 3, 1, "01", bad);
        T.leaves(-3, "point", 3, 2, bad, base);
        T.leaves(-3, "point", 3, 2, base, bad);
        T.leaves(-3, "point", 3, 3, bad, base);
        T.leaves(-3, "point", 3, 4, bad, base);
        T.leaves(-1, "point", 3, 1, "00".repeat(33), bad);
    }

    /** "points of 32 bytes, as decoded there (y below p, no x of 0 with the sign 1; the neutral one is a point)". */
    private static void decoded() {
        T.told("y below p, no x of 0 with the sign 1; the neutral one is a point");
        int points = 0;
        for (int i = -45; i < 60; i++) {
            // About 0, about p up to 2^255 - 1, and with the sign.
            BigInteger y = i >= 0 ? BigInteger.valueOf(i) : TWO.pow(255).add(BigInteger.valueOf(i));
            for (int sign = 0; sign < 2; sign++) {
                String form = Twisted.little(sign == 1 ? y.setBit(255) : y);
                BigInteger[] point = Twisted.decoded(form);
                if (point == null) {
                    none(form);
                } else {
                    points++;
                    T.gives(form, "point", 3, 4, form, "");
                    T.gives(form, "point", 3, 1, "01", form);
                    T.gives(Twisted.encoded(Twisted.turned(point)), "point", 3, 3, form, "");
                    T.gives(Twisted.encoded(Twisted.plus(point, point)), "point", 3, 2, form, form);
                }
            }
        }
        Check.due("points", points > 50, true);
        String neutral = Twisted.encoded(Twisted.NEUTRAL);
        T.gives(neutral, "point", 3, 4, neutral, "");
        none("01" + "00".repeat(30) + "80");
        none("ec" + "ff".repeat(31));
        none(Twisted.little(P));
        none(Twisted.little(P.add(ONE)));
        T.told("points of 32 bytes");
        for (String bad : new String[] {"", "00", "04", neutral + "00", neutral.substring(2), "00" + neutral, neutral + neutral, "00".repeat(8192)}) {
            none(bad);
        }
    }

    private static void sums() {
        T.told("2 the points a and b added, 3 the point a with the other sign");
        BigInteger[][] small = Twisted.small();
        BigInteger[][] points = new BigInteger[12][];
        for (int i = 0; i < 12; i++) {
            BigInteger[] any = Twisted.times(new BigInteger(250, RANDOM), Twisted.BASE);
            points[i] = i < 8 ? small[i] : i == 11 ? Twisted.turned(points[9]) : i == 10 ? Twisted.plus(any, small[3]) : any;
        }
        for (int i = 0; i < 12; i++) {
            T.gives(Twisted.encoded(Twisted.turned(points[i])), "point", 3, 3, Twisted.encoded(points[i]), "");
            for (int k = 0; k < 12; k++) {
                T.gives(Twisted.encoded(Twisted.plus(points[i], points[k])), "point", 3, 2, Twisted.encoded(points[i]),
                    Twisted.encoded(points[k]));
            }
            for (BigInteger k : new BigInteger[] {ZERO, ONE, BigInteger.valueOf(7), BigInteger.valueOf(8), L, L.subtract(ONE), L.shiftLeft(3),
                TWO.pow(256).subtract(ONE), TWO.pow(255)}) {
                T.gives(Twisted.encoded(Twisted.times(k, points[i])), "point", 3, 1, Twisted.little(k), Twisted.encoded(points[i]));
            }
        }
    }

    /** "A SCALAR a has at most w bytes (curve 3: 32, the lowest byte first), else -1, and may be any number." */
    private static void scalars() {
        T.told("curve 3: 32, the lowest byte first");
        String base = Twisted.encoded(Twisted.BASE);
        for (BigInteger k : new BigInteger[] {ZERO, ONE, TWO, BigInteger.valueOf(256), BigInteger.valueOf(65535), L.subtract(ONE), L, L.add(ONE),
            L.shiftLeft(3), TWO.pow(252), TWO.pow(253).subtract(ONE), TWO.pow(255), TWO.pow(256).subtract(ONE)}) {
            String all = Twisted.little(k);
            T.gives(Twisted.encoded(Twisted.times(k, Twisted.BASE)), "point", 3, 0, all, "");
            T.gives(Twisted.encoded(Twisted.times(k, Twisted.BASE)), "point", 3, 1, all, base);
        }
        for (int n = 0; n <= 32; n++) {
            String a = some(n);
            T.gives(Twisted.encoded(Twisted.times(n == 0 ? ZERO : Twisted.number(a), Twisted.BASE)), "point", 3, 0, a, "ff");
        }
        T.told("at most 32 bytes, else -1");
        for (int n : new int[] {33, 34, 64, 8192}) {
            T.leaves(-1, "point", 3, 0, "01" + "00".repeat(n - 1), "");
            T.leaves(-1, "point", 3, 1, "01" + "00".repeat(n - 1), base);
            T.leaves(-1, "point", 3, 1, "01" + "00".repeat(n - 1), "");
        }
    }

    /** "3: X25519 (RFC 7748): 32 bytes each (else -1); all 0s: -3". */
    private static void exchanges() {
        T.told("all 0s: -3");
        BigInteger[] told = new BigInteger[64];
        int count = 0;
        for (int i = -25; i < 12; i++) {
            told[count++] = i >= 0 ? BigInteger.valueOf(i) : TWO.pow(255).add(BigInteger.valueOf(i));
        }
        // The two whose order is 8, also with p behind them.
        told[count++] = new BigInteger("325606250916557431795983626356110631294008115727848805560023387167927233504");
        told[count++] = new BigInteger("39382357235489614581723060781553021112529911719440698176882885853963445705823");
        told[count++] = Twisted.number("e0eb7a7c3b41b8ae1656e3faf19fc46ada098deb9c32b1fd866205165f49b800");
        told[count++] = Twisted.number(some(32));
        told[count++] = Twisted.number(some(32));
        int zeros = 0;
        for (int i = 0; i < count; i++) {
            for (int high = 0; high < 2; high++) {
                String point = Twisted.little(high == 1 ? told[i].setBit(255) : told[i].clearBit(255));
                for (String secret : new String[] {some(32), "00".repeat(32), "ff".repeat(32)}) {
                    String want = Twisted.exchanged(secret, point);
                    if (want.equals("00".repeat(32))) {
                        zeros++;
                        T.leaves(-3, "agree", 3, secret, point);
                    } else {
                        T.gives(want, "agree", 3, secret, point);
                    }
                }
            }
        }
        Check.due("all 0s", zeros >= 42, true);
        oneByte();
        T.told("32 bytes each (else -1)");
        String nine = "09" + "00".repeat(31);
        for (int n : new int[] {0, 1, 31, 33, 64, 8192}) {
            T.leaves(-1, "agree", 3, "01".repeat(n), nine);
            T.leaves(-1, "agree", 3, nine, "09".repeat(n));
            T.leaves(-1, "agree", 3, nine, "00".repeat(n));
            T.leaves(-1, "key", 5, "01".repeat(n));
        }
        for (String secret : new String[] {some(32), "00".repeat(32), "ff".repeat(32), "07" + "00".repeat(30) + "80"}) {
            T.gives(Twisted.exchanged(secret, nine), "key", 5, secret);
            T.gives(Twisted.exchanged(secret, nine), "agree", 3, secret, nine);
        }
    }

    /** What is not all 0s, but for one byte: it is made backwards, by the secret's inverse. */
    private static void oneByte() {
        for (int at = 0; at < 32; at++) {
            BigInteger u = null;
            for (int v = 1; v < 128 && u == null; v++) {
                BigInteger told = BigInteger.valueOf(v).shiftLeft(8 * at);
                boolean is = told.compareTo(P) < 0 && Twisted.ladder(L.add(ONE), told).equals(told);
                u = is ? told : null;
            }
            String secret = some(32);
            String point = Twisted.little(Twisted.ladder(Twisted.clamped(secret).modInverse(L), u));
            T.gives(Twisted.little(u), "agree", 3, secret, point);
        }
    }

    /** RFC 7748's samples, once and a thousand times. */
    private static void ladderSamples() {
        T.told("X25519 (RFC 7748)");
        T.gives("c3da55379de9c6908e94ea4df28d084f32eccf03491c71f754b4075577a28552", "agree", 3,
            "a546e36bf0527c9d3b16154b82465edd62144c0ac1fc5a18506a2244ba449ac4",
            "e6db6867583030db3594c1a424b15f7c726624ec26b3353b10a903a6d0ab1c4c");
        T.gives("95cbde9476e8907d7aade45cb4b873f88b595a68799fa152e6f8f7647aac7957", "agree", 3,
            "4b66e9d4d1b4673c5ad22691957d6af5c11b6421e0ea01d42ca4169e7918ba0d",
            "e5210f12786811d3f4b7959d0538ae2c31dbe7106fc03c3efc4cd549c715a493");
        CryptHouse h = new CryptHouse();
        Check.row(h, 0, "09" + "00".repeat(31));
        Check.row(h, 1, "09" + "00".repeat(31));
        for (int i = 1; i <= 1000; i++) {
            h.agree(3, 0, 1, 2);
            h.cut(0, 0, 32, 1);
            h.cut(2, 0, 32, 0);
            if (i == 1) {
                Check.due("once", Check.text(h, 0), "422c8e7a6227d7bca1350b3e2bb7279f7897b87bb6854b783c60e80311ae3079");
            }
        }
        Check.due("a thousand times", Check.text(h, 0), "684cf59ba83309552800ef566f2f4d3c1c3887c49360e3875f2eb94d99532c51");
    }

    /** "3 Ed25519 (RFC 8032; the secret 32 bytes)". */
    private static void secretSizes() {
        T.told("the secret 32 bytes");
        for (int n = 0; n < 66; n++) {
            if (n == 32) {
                T.made(32, "key", 3, some(n));
                T.made(64, "sign", 3, 77, some(n), "61", "");
            } else {
                T.leaves(-1, "key", 3, some(n));
                T.leaves(-1, "sign", 3, 77, some(n), "61", "");
            }
        }
        T.told("more by 0 .. 2 and 4");
        String secret = some(32);
        String s = T.made(64, "sign", 3, 0, secret, "61", "");
        T.gives(s, "sign", 3, 0, secret, "61", "ff".repeat(8192));
    }

    private static BigInteger clamped(String secret) {
        BigInteger k = Twisted.number(Check.hex(Twisted.sum(secret)).substring(0, 64));
        return k.clearBit(0).clearBit(1).clearBit(2).clearBit(255).setBit(254);
    }

    /** Signatures of texts of all sizes, by the model; a bit of each part changed. */
    private static void signatures() {
        T.told("3 Ed25519 (RFC 8032)");
        for (int n : new int[] {0, 1, 2, 63, 64, 65, 127, 128, 8192}) {
            String secret = some(32);
            String x = some(n);
            BigInteger a = clamped(secret);
            String key = Twisted.encoded(Twisted.times(a, Twisted.BASE));
            BigInteger r = Twisted.hashed(Check.hex(Twisted.sum(secret)).substring(64), x);
            String point = Twisted.encoded(Twisted.times(r, Twisted.BASE));
            BigInteger s = r.add(a.multiply(Twisted.hashed(point, key, x))).mod(L);
            T.gives(key, "key", 3, secret);
            T.gives(point + Twisted.little(s), "sign", 3, -1, secret, x, "");
            verified(key, x, point + Twisted.little(s), 1);
            for (int bit = 0; bit < 512; bit += 13) {
                byte[] other = Check.bytes(point + Twisted.little(s));
                other[bit / 8] ^= 1 << bit % 8;
                verified(key, x, Check.hex(other), 0);
            }
            verified(key, n == 8192 ? x.substring(2) : x + "00", point + Twisted.little(s), 0);
            T.told("other sizes");
            for (String bad : new String[] {"", point, point + Twisted.little(s) + "00", "00" + point + Twisted.little(s), point + Twisted.little(s).substring(2)}) {
                verified(key, x, bad, 0);
            }
            for (String bad : new String[] {"", key + "00", key.substring(2), "00" + key, "00"}) {
                verified(bad, x, point + Twisted.little(s), 0);
            }
        }
    }

    private static void verified(String key, String x, String s, int want) {
        T.leaves(want, "verify", 3, RANDOM.nextInt(), key, x, s);
    }

    /** "A and R decoded, and 8 * S * B = 8 * R + 8 * k * A": parts of small order do not count. */
    private static void smallParts() {
        T.told("8 * S * B = 8 * R + 8 * k * A");
        BigInteger[][] small = Twisted.small();
        for (int i = 0; i < 8; i++) {
            for (int j = 0; j < 8; j++) {
                BigInteger a = new BigInteger(250, RANDOM);
                BigInteger r = new BigInteger(250, RANDOM);
                String key = Twisted.encoded(Twisted.plus(Twisted.times(a, Twisted.BASE), small[i]));
                String point = Twisted.encoded(Twisted.plus(Twisted.times(r, Twisted.BASE), small[j]));
                BigInteger s = r.add(a.multiply(Twisted.hashed(point, key, "6162"))).mod(L);
                verified(key, "6162", point + Twisted.little(s), 1);
                verified(key, "6162", point + Twisted.little(s.add(ONE).mod(L)), 0);
                // A key and an R that are of small order alone.
                String low = Twisted.encoded(small[j]);
                verified(Twisted.encoded(small[i]), "6162", low + Twisted.little(ZERO), 1);
                verified(Twisted.encoded(small[i]), "6162", low + Twisted.little(ONE), 0);
                verified(Twisted.encoded(small[i]), "6162", point + Twisted.little(r), 1);
            }
        }
        T.told("A and R decoded");
        String[] bad = {
            "ee" + "ff".repeat(30) + "7f", "ed" + "ff".repeat(30) + "7f", "01" + "00".repeat(30) + "80", "ec" + "ff".repeat(31), "02" + "00".repeat(31),
            "ee" + "ff".repeat(31), "ed" + "ff".repeat(31), "ff".repeat(32)
        };
        String neutral = Twisted.encoded(Twisted.NEUTRAL);
        for (String b : bad) {
            verified(b, "61", neutral + Twisted.little(ZERO), 0);
            verified(neutral, "61", b + Twisted.little(ZERO), 0);
        }
    }

    /** "S below its order". */
    private static void notBelow() {
        T.told("S below its order");
        String neutral = Twisted.encoded(Twisted.NEUTRAL);
        verified(neutral, "61", neutral + Twisted.little(ZERO), 1);
        for (int i = 1; i < 16; i++) {
            verified(neutral, "61", neutral + Twisted.little(L.multiply(BigInteger.valueOf(i))), 0);
        }
        for (BigInteger s : new BigInteger[] {ONE, L.subtract(ONE), L.subtract(TWO), TWO.pow(252)}) {
            String r = Twisted.encoded(Twisted.times(s, Twisted.BASE));
            verified(neutral, "61", r + Twisted.little(s), 1);
            for (BigInteger same = s.add(L); same.bitLength() <= 256; same = same.add(L)) {
                verified(neutral, "61", r + Twisted.little(same), 0);
            }
        }
    }

    /** RFC 9180's sample A.1.1: AES-128-GCM, the first message. */
    private static void hybridSample() {
        T.told("HYBRID sealing (HPKE, RFC 9180, base mode ..)");
        String key = "3948cfe0ad1ddb695d780e59077195da6c56506b027329794ab02bca80815c4d";
        String own = "52c4a758a802cd8b936eceea314432798d5baf2d7e9235dc084ab1b9cfa2f736";
        String secret = "4612c550263fc8ad58375df3f557aac531d26850903e55a9f23f21d8534e8ac8";
        String info = "4f6465206f6e2061204772656369616e2055726e";
        String x = "4265617574792069732074727574682c20747275746820626561757479";
        String sealed = "37fda3567bdbd628e88668c3c8d7e97d1d1253b6d4ea6d44c150f741f1bf4431"
            + "f938558b5d72f1a23810b4be2ab4f84331acc02fc97babc53a52ae8218a355a96d8770ac83d07bea87e13c512a";
        T.gives(key, "key", 5, secret);
        T.gives(sealed, "hybridSeal", 0, key, own, info, "436f756e742d30", x);
        T.gives(x, "hybridOpen", 0, secret, info, "436f756e742d30", sealed);
    }

    private static byte[] hmac(byte[] key, byte[]... parts) {
        try {
            return BoundsHashesTest.hmac(2, key, Check.join(parts));
        } catch (Exception e) {
            throw new IllegalStateException(e);
        }
    }

    private static byte[] labeled(int aead, String label, byte[] x) {
        byte[] suite = aead < 0 ? Check.bytes("4b454d0020") : Check.bytes("48504b45002000010" + "00" + (aead + 1));
        return Check.join("HPKE-v1".getBytes(), suite, label.getBytes(), x);
    }

    private static byte[] expanded(int aead, byte[] key, String label, byte[] info, int n) {
        byte[] told = Check.join(new byte[] {0, (byte) n}, labeled(aead, label, info));
        return java.util.Arrays.copyOf(hmac(key, told, new byte[] {1}), n);
    }

    /** RFC 9180's base mode, one message, as it is told there. */
    private static String sealed(int aead, String key, String own, String info, String ad, String x) {
        String enc = Twisted.exchanged(own, "09" + "00".repeat(31));
        byte[] shared = hmac(new byte[0], labeled(-1, "eae_prk", Check.bytes(Twisted.exchanged(own, key))));
        shared = expanded(-1, shared, "shared_secret", Check.bytes(enc + key), 32);
        byte[] context = Check.join(new byte[1], hmac(new byte[0], labeled(aead, "psk_id_hash", new byte[0])),
            hmac(new byte[0], labeled(aead, "info_hash", Check.bytes(info))));
        byte[] secret = hmac(shared, labeled(aead, "secret", new byte[0]));
        byte[] real = expanded(aead, secret, "key", context, aead == 0 ? 16 : 32);
        byte[] nonce = expanded(aead, secret, "base_nonce", context, 12);
        CryptHouse h = new CryptHouse();
        Check.run(h, "seal", aead == 2 ? 4 : 0, real, nonce, ad, x);
        return enc + Check.text(h, Check.TO);
    }

    /** "what comes is enc, then what is sealed (ad as told; -1 sizes; ..)"; "-2 more than 8192 bytes would come". */
    private static void hybridLimits() {
        String secret = some(32);
        String own = some(32);
        String key = T.made(32, "key", 5, secret);
        for (int aead = 0; aead < 3; aead++) {
            T.told("-1 sizes");
            for (int n : new int[] {0, 1, 31, 33, 64, 8192}) {
                T.leaves(-1, "hybridSeal", aead, "09".repeat(n), own, "", "", "61");
                T.leaves(-1, "hybridSeal", aead, key, "09".repeat(n), "", "", "61");
                T.leaves(-1, "hybridSeal", aead, "00".repeat(n), own, "", "", "00".repeat(8192));
                T.leaves(-1, "hybridOpen", aead, "09".repeat(n), "", "", "09" + "00".repeat(50));
            }
            String least = T.made(48, "hybridSeal", aead, key, own, "", "", "");
            for (int n = 0; n < 48; n++) {
                T.leaves(-1, "hybridOpen", aead, secret, "", "", least.substring(0, 2 * n));
            }
            T.gives("", "hybridOpen", aead, secret, "", "", least);
            T.leaves(-3, "hybridOpen", aead, secret, "", "", least + "00");
            T.told("-2 more than 8192 bytes would come");
            String full = some(8192);
            String x = some(8144);
            String most = T.made(8192, "hybridSeal", aead, key, own, full, full, x);
            T.gives(x, "hybridOpen", aead, secret, full, full, most);
            T.leaves(-3, "hybridOpen", aead, secret, full, full.substring(2), most);
            T.leaves(-3, "hybridOpen", aead, secret, full.substring(2), full, most);
            T.leaves(-3, "hybridOpen", aead, secret, full.substring(0, 16382), full, most);
            T.leaves(-3, "hybridOpen", aead, secret, full, full.substring(0, 16382), most);
            byte[] other8192 = Check.bytes(full);
            other8192[8191] ^= 1;
            T.leaves(-3, "hybridOpen", aead, secret, other8192, full, most);
            T.leaves(-3, "hybridOpen", aead, secret, full, other8192, most);
            for (int n : new int[] {0, 1, 100, 8144}) {
                String text = full.substring(0, 2 * n);
                String info = full.substring(2 * n);
                T.gives(sealed(aead, key, own, info, text, text), "hybridSeal", aead, key, own, info, text, text);
            }
            for (int n : new int[] {8145, 8146, 8192}) {
                T.leaves(-2, "hybridSeal", aead, key, own, "", "", "00".repeat(n));
                T.leaves(-2, "hybridSeal", aead, "00".repeat(32), own, "", "", "00".repeat(n));
                T.leaves(-1, "hybridSeal", aead, key, own.substring(2), "", "", "00".repeat(n));
            }
            T.told("does not open: -3");
            byte[] sealed = Check.bytes(T.made(51, "hybridSeal", aead, key, own, "61", "62", "636465"));
            for (int bit = 0; bit < 8 * sealed.length; bit++) {
                byte[] other = sealed.clone();
                other[bit / 8] ^= 1 << bit % 8;
                // The highest bit of a point of X25519 is not looked at, but what was sent is hashed as it is.
                T.leaves(-3, "hybridOpen", aead, secret, "61", "62", other);
            }
        }
        T.told("aead 0 .. 2");
        for (int aead : new int[] {-1, 3, Integer.MIN_VALUE, Integer.MAX_VALUE}) {
            T.thrown("hybridSeal", aead, "", "", "", "", "");
            T.thrown("hybridOpen", aead, "", "", "", "");
        }
    }

    /** "-3 a key that gives all 0s". */
    private static void hybridZeros() {
        T.told("-3 a key that gives all 0s");
        String[] zeros = {
            "00".repeat(32), "01" + "00".repeat(31), "ec" + "ff".repeat(30) + "7f", "ed" + "ff".repeat(30) + "7f", "ee" + "ff".repeat(30) + "7f",
            "e0eb7a7c3b41b8ae1656e3faf19fc46ada098deb9c32b1fd866205165f49b800",
            "5f9c95bca3508c24b1d0b1559c83ef5b04445cc4581c8e86d8224eddd09f1157", "00".repeat(31) + "80", "ee" + "ff".repeat(31)
        };
        for (String key : zeros) {
            for (int aead = 0; aead < 3; aead++) {
                T.leaves(-3, "hybridSeal", aead, key, some(32), "", "", "61");
                T.leaves(-3, "hybridSeal", aead, key, some(32), "", "", "00".repeat(8144));
                T.leaves(-3, "hybridOpen", aead, some(32), "", "", key + "00".repeat(16));
                T.leaves(-1, "hybridOpen", aead, some(32), "", "", key + "00".repeat(15));
                T.leaves(-1, "hybridOpen", aead, some(31), "", "", key + "00".repeat(16));
            }
        }
    }
}
