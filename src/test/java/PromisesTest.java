import java.math.BigInteger;

/**
 * The 35 promises in their order. Of each of their calls there is an ordinary answer (published samples, where there are
 * some), an edge that the document names, and a wrong input. What goes deeper stands in the other tests.
 */
public final class PromisesTest {
    private static final String ZERO32 = "00".repeat(32);
    private static final String ONE32 = "00".repeat(31) + "01";
    private static final String ABC = "616263";
    private static final String ABC_SHA256 = "ba7816bf8f01cfea414140de5dae2223b00361a396177a9cb410ff61f20015ad";
    private static final String BAD = "throws.IllegalArgumentException";
    private static final String ORDER0 = "ffffffff00000000ffffffffffffffffbce6faada7179e84f3b9cac2fc632551";
    private static final String BASE0 = "036b17d1f2e12c4247f8bce6e563a440f277037d812deb33a0f4a13945d898c296";
    private static final String TWICE0 = "037cf27b188d034f7e8a52380304b51ac3c08969e277f21b35a60b48fc47669978";
    private static final String BASE_ED = "58" + "66".repeat(31);
    private static final int[] COUNTS = new int[36];
    private static int promise;
    private static CryptHouse h;

    public static void main(String[] args) {
        rows();
        hashes();
        ciphers();
        numbers();
        curves();
        lattices();
        shares();
        proofs();
        log();
        box();
        for (int i = 1; i <= 35; i++) {
            Check.due("promise " + i + " has tests: " + COUNTS[i], COUNTS[i] >= 4, true);
        }
        Check.end();
    }

    /** From here on a promise is looked at, on a new object. */
    private static void promise(int number) {
        promise = number;
        h = new CryptHouse();
    }

    private static void is(Object got, Object want) {
        COUNTS[promise]++;
        Check.due("promise " + promise, got, want);
    }

    /** A call answers so; the rows it reads are told as their bytes, in hexadecimal signs. */
    private static void answers(Object want, String name, Object... args) {
        COUNTS[promise]++;
        Check.due("promise " + promise + ": " + name, Check.run(h, name, args), String.valueOf(want));
    }

    /** A call writes these bytes to its last row, and answers how many they are. */
    private static void gives(String want, String name, Object... args) {
        COUNTS[promise]++;
        Check.gives(h, want, name, args);
    }

    /** A call is refused so, and its row stays what it was. */
    private static void refused(int want, String name, Object... args) {
        COUNTS[promise]++;
        Check.refused(h, String.valueOf(want), name, args);
    }

    private static void throwsBad(String name, Object... args) {
        answers(BAD, name, args);
    }

    /** What a row holds after the call that is due to write it. */
    private static String row(int row) {
        return Check.text(h, row);
    }

    private static void rows() {
        newObject();
        feedAndKeep();
        fillAndJoin();
        cutAndXor();
        sizeAndOctets();
    }

    private static void newObject() {
        promise(1);
        for (int row = 0; row < 24; row++) {
            is(h.size(row), 0);
        }
        for (int what = 0; what < 4; what++) {
            is(h.count(what), 0);
        }
        is(h.more(0), -3);
        is(h.head(1, 0), -1);
        is(h.look(15, 0), -4);
        h.trail(0);
        is(row(0), ZERO32);
    }

    private static void feedAndKeep() {
        promise(2);
        is(h.feed(3, 0x636261, 0, 0), 3);
        is(h.feed(24, 1, -2, 3), 27);
        is(h.keep(5), 27);
        is(row(5), ABC + "0100000000000000" + "feffffffffffffff" + "0300000000000000");
        is(h.count(0), 0);
        is(h.keep(5), 0);
        throwsBad("feed", 0, 1, 1, 1);
        throwsBad("feed", 25, 1, 1, 1);
        throwsBad("keep", 24);
        for (int i = 0; i < 341; i++) {
            h.feed(24, 0, 0, 0);
        }
        answers("throws.IllegalStateException", "feed", 9, 0, 0, 0);
        is(h.feed(8, 0, 0, 0), 8192);
    }

    private static void fillAndJoin() {
        promise(3);
        is(h.fill(3, 0x1ff, 4), 3);
        is(row(4), "ffffff");
        is(h.fill(8192, 7, 4), 8192);
        is(h.fill(8193, 7, 4), -1);
        is(h.fill(-1, 7, 4), -1);
        is(h.size(4), 8192);
        throwsBad("fill", 1, 1, 24);
        gives("0102ff", "join", "0102", "ff");
        is(h.join(4, 0, 5), -2);
        is(h.join(4, 6, 5), 8192);
        throwsBad("join", 0, -1, 0);
    }

    private static void cutAndXor() {
        promise(4);
        gives("0203", "cut", "01020304", 1, 2);
        gives("", "cut", "01020304", 4, 0);
        refused(-1, "cut", "01020304", 5, 0);
        refused(-1, "cut", "01020304", 3, 2);
        refused(-1, "cut", "01020304", 3, -1);
        throwsBad("cut", 24, 0, 0, 0);
        gives("0ff0", "xor", "0a50", "05a0");
        refused(-1, "xor", "0a50", "05");
        throwsBad("xor", 0, 0, 24);
    }

    private static void sizeAndOctets() {
        promise(5);
        Check.row(h, 0, "0102030405060708ff");
        is(h.size(0), 9);
        throwsBad("size", -1);
        is(h.octets(0, 0), 0x0807060504030201L);
        is(h.octets(0, 8), 255L);
        answers("throws.NoSuchElementException", "octets", 0, 9);
        answers("throws.NoSuchElementException", "octets", 0, -1);
        throwsBad("octets", 24, 9);
    }

    private static void hashes() {
        promise(6);
        answers(0, "compare", "000001", "01");
        answers(-1, "compare", "ff", "0100");
        answers(1, "compare", "0101", "0100");
        throwsBad("compare", 0, 24);
        gives("a9993e364706816aba3e25717850c26c9cd0d89d", "hash", 0, 0, ABC);
        gives(ABC_SHA256, "hash", 2, 0, ABC);
        gives("3a985da74fe225b2045c172d6bd390bd855f086e3e9d525b46bfe24511431532", "hash", 7, 0, ABC);
        gives("5881", "hash", 10, 2, ABC);
        gives("bddd813c634239723171ef3fee98579b94964e3bb1cb3e427262c8c068d52319", "hash", 12, 32, ABC);
        gives("", "hash", 11, 0, ABC);
        refused(-1, "hash", 13, 33, ABC);
        throwsBad("hash", 14, 0, 0, 0);
        pieces();
        keyedSums();
        derived();
    }

    private static void pieces() {
        promise(7);
        Check.row(h, 0, "61");
        Check.row(h, 1, "6263");
        is(h.more(0), -3);
        is(h.begin(2, -5), 0);
        is(h.count(1), 1);
        is(h.more(0), 0);
        is(h.begin(12, 0), -1);
        is(h.more(1), 0);
        throwsBad("begin", -1, 0);
        throwsBad("more", 24);
        is(h.done(2), 32);
        is(row(2), ABC_SHA256);
        is(h.begin(0, 0), 0);
        is(h.begin(2, 0), 0);
        h.done(2);
        is(row(2), "e3b0c44298fc1c149afbf4c8996fb92427ae41e4649b934ca495991b7852b855");
    }

    private static void keyedSums() {
        promise(8);
        is(h.done(0), -3);
        throwsBad("done", 24);
        is(h.begin(10, 2), 0);
        is(h.done(0), 2);
        is(row(0), "7f9c");
        is(h.done(0), -3);
        gives("5bdcc146bf60754e6a042426089575c75a003f089d2739839dec58b964ec3843", "sum", 2, 0,
            "4a656665", "7768617420646f2079612077616e7420666f72206e6f7468696e673f");
        gives("e5780b0d3ea6f7d3a429c5706aa43a00fadbd7d49628839e3187243f456ee14e", "sum", 10, 32,
            "404142434445464748494a4b4c4d4e4f505152535455565758595a5b5c5d5e5f", "00010203");
        gives("bb1d6929e95937287fa37d129b756746", "sum", 14, 0, "2b7e151628aed2a6abf7158809cf4f3c", "");
        gives("a8061dc1305136c6c22b8baf0c0127a9", "sum", 15, 0,
            "85d6be7857556d337f4452fe42d506a80103808afb0db2fd4abff6af4149f51b",
            "43727970746f6772617068696320466f72756d2052657365617263682047726f7570");
        refused(-1, "sum", 11, 8193, "01", "");
        refused(-1, "sum", 12, 64, "", "");
        refused(-1, "sum", 15, 0, "01", "");
        throwsBad("sum", 16, 0, 0, 0, 0);
    }

    private static void derived() {
        promise(9);
        gives("3cb25f25faacd57a90434f64d0362f2a2d2d0a90cf1a5a4c5db02d56ecc4c5bf34007208d5b887185865", "derive", 2,
            "0b".repeat(22), "000102030405060708090a0b0c", "f0f1f2f3f4f5f6f7f8f9", 42);
        gives("", "derive", 9, "", "", "", 0);
        refused(-1, "derive", 0, "", "", "", 5101);
        refused(-1, "derive", 4, "", "", "", 8193);
        throwsBad("derive", 10, 0, 0, 0, 1, 0);
        gives("ea6c014dc72d6f8ccd1ed92ace1d41f0d8de8957", "stretch", 0, "70617373776f7264", "73616c74", 2, 20);
        refused(-1, "stretch", 0, "", "", 1001, 20);
        refused(-1, "stretch", 0, "", "", 1, 257);
        throwsBad("stretch", -1, 0, 0, 1, 1, 0);
        promise(10);
        gives("77d6576238657b203b19ca42c18a0497f16b4844e3074ae8dfdffa3fede21442"
            + "fcd0069ded0948f8326a753a0fc81f17e8d3e0fb2e0d3628cf35e20c38d18906", "scrypt", "", "", 16, 1, 1, 64);
        refused(-1, "scrypt", "", "", 3, 1, 1, 64);
        refused(-1, "scrypt", "", "", 128, 1, 1, 64);
        refused(-1, "scrypt", "", "", 2, 5, 1, 64);
        throwsBad("scrypt", 0, 24, 2, 1, 1, 1, 0);
    }

    private static void ciphers() {
        promise(10);
        String key = "000102030405060708090a0b0c0d0e0f";
        String block = "00112233445566778899aabbccddeeff";
        String sealed = "69c4e0d86a7b0430d8cdb78070b4c55a";
        gives(sealed, "crypt", 0, 0, 0, key, "", block);
        gives(block, "crypt", 0, 0, 1, key, "", sealed);
        gives("85e813540f0ab405", "crypt", 1, 0, 0, "133457799bbcdff1", "", "0123456789abcdef");
        gives("", "crypt", 0, 1, 0, key, block, "");
        refused(-1, "crypt", 0, 1, 0, key, block, "01");
        refused(-1, "crypt", 0, 5, 0, key + key, block, block);
        refused(-3, "crypt", 0, 6, 1, key, block, sealed);
        throwsBad("crypt", 3, 0, 0, 0, 0, 0, 0);
        promise(11);
        gives("10f1e7e4d13b5915500fdd1fa32071c4c7d1f4c733c068030422aa9ac3d46c4ed2826446079faa0914c2d705d98b02a2"
            + "b5129cd1de164eb9cbd083e8a2503c4e", "stream", key + "101112131415161718191a1b1c1d1e1f",
            "000000090000004a00000000", 1, "00".repeat(64));
        refused(-1, "stream", key, "00".repeat(12), 1, "00");
        throwsBad("stream", 0, 0, 0, 0, 24);
        String zero = "00".repeat(16);
        String form = "0388dace60b6a392f328c2b971b2fe78ab6e47d42cec13bdf53a67b21257bddf";
        gives(form, "seal", 0, zero, "00".repeat(12), "", zero);
        refused(-1, "seal", 0, zero, "", "", zero);
        refused(-2, "seal", 4, ZERO32, "00".repeat(12), "", "00".repeat(8177));
        throwsBad("seal", 5, 0, 0, 0, 0, 0);
        promise(12);
        gives(zero, "open", 0, zero, "00".repeat(12), "", form);
        refused(-3, "open", 0, zero, "00".repeat(12), "00", form);
        refused(-1, "open", 0, zero, "00".repeat(12), "", "00".repeat(15));
        throwsBad("open", -1, 0, 0, 0, 0, 0);
        wrapsAndDigits(key, block);
    }

    private static void wrapsAndDigits(String key, String block) {
        String wrapped = "1fa68b0a8112b447aef34bd8fb5a7b829d3e862371d2cfe5";
        gives(wrapped, "wrap", 0, 0, key, block);
        gives(block, "wrap", 0, 1, key, wrapped);
        refused(-3, "wrap", 0, 1, key, "00" + wrapped.substring(2));
        refused(-1, "wrap", 0, 0, key, "00".repeat(8));
        refused(-2, "wrap", 0, 0, key, "00".repeat(8192));
        String keyPadded = "5840df6e29b02af1ab493b705bf16ea1ae8338f4dcc176a8";
        String padded = "138bdeaa9b8fa7fc61f97742e72248ee5ae6ae5360d1ae6a5f54f373fa543b6a";
        gives(padded, "wrap", 1, 0, keyPadded, "c37b7e6492584340bed12207808941155068f738");
        gives("c37b7e6492584340bed12207808941155068f738", "wrap", 1, 1, keyPadded, padded);
        refused(-1, "wrap", 1, 0, key, "");
        throwsBad("wrap", 0, 0, 0, 0, 24);
        promise(13);
        String aes = "2b7e151628aed2a6abf7158809cf4f3c";
        gives("02040303040707040804", "format", 10, 0, aes, "", "00010203040506070809");
        gives("00010203040506070809", "format", 10, 1, aes, "", "02040303040707040804");
        refused(-1, "format", 10, 0, aes, "", "000102030405060708" + "0a");
        refused(-1, "format", 10, 0, aes, "", "0001020304");
        refused(-1, "format", 257, 0, aes, "", "00010203040506070809");
        throwsBad("format", 10, 0, 24, 0, 0, 0);
    }

    private static void numbers() {
        promise(13);
        gives("0100", "work", 0, "ff", "01", "");
        refused(-3, "work", 1, "01", "02", "");
        gives("fe01", "work", 2, "ff", "00ff", "");
        gives("03", "work", 3, "0a", "03", "");
        gives("01", "work", 4, "0a", "03", "");
        refused(-3, "work", 4, "0a", "00", "");
        gives("02", "work", 5, "05", "04", "07");
        gives("06", "work", 6, "04", "05", "07");
        gives("06", "work", 7, "04", "05", "07");
        gives("02", "work", 8, "04", "05", "07");
        gives("", "work", 8, "04", "05", "01");
        gives("02", "work", 9, "04", "", "07");
        refused(-3, "work", 9, "04", "", "06");
        gives("06", "work", 10, "0c", "12", "");
        gives("03", "work", 11, "02", "", "07");
        refused(-3, "work", 11, "03", "", "07");
        refused(-3, "work", 11, "01", "", "02");
        refused(-1, "work", 0, "01" + "00".repeat(128), "01", "");
        throwsBad("work", 12, 0, 0, 0, 0);
        promise(14);
        answers(1, "prime", "02", 1);
        answers(0, "prime", "01", 20);
        answers(1, "prime", "07ff", 1);
        answers(0, "prime", "07ff", 2);
        answers(-1, "prime", "07", 21);
        answers(-1, "prime", "01" + "00".repeat(128), 1);
        throwsBad("prime", 24, 1);
        answers(1, "witness", "17", "0b", "05");
        answers(0, "witness", "17", "0b", "01");
        answers(0, "witness", "17", "02", "05");
        answers(-1, "witness", "17", "0b", "01" + "00".repeat(128));
        throwsBad("witness", 0, 0, 24);
        rsa();
    }

    /** A key of 64 bytes from two primes that are known by their form: 2^127 - 1 times the first prime beyond 2^384. */
    private static void rsa() {
        promise(15);
        BigInteger p = BigInteger.TWO.pow(127).subtract(BigInteger.ONE);
        BigInteger q = BigInteger.TWO.pow(384).nextProbablePrime();
        BigInteger n = p.multiply(q);
        BigInteger d = BigInteger.valueOf(65537).modInverse(p.subtract(BigInteger.ONE).multiply(q.subtract(BigInteger.ONE)));
        String modulus = number(n);
        String code = "0002" + "11".repeat(58) + "00" + ABC;
        String sealed = number(new BigInteger(code, 16).modPow(BigInteger.valueOf(65537), n));
        gives(sealed, "rsa", 2, 0, modulus, "010001", ABC, "11".repeat(58));
        gives(ABC, "rsa", 3, 0, modulus, number(d), sealed, "");
        refused(-3, "rsa", 3, 0, modulus, number(d), modulus, "");
        refused(-1, "rsa", 3, 0, modulus, number(d), sealed.substring(2), "");
        refused(-1, "rsa", 2, 0, modulus, "02", ABC, "11".repeat(58));
        for (int sign = 4; sign <= 6; sign += 2) {
            is(Check.run(h, "rsa", sign, 2, modulus, number(d), ABC, ""), "64");
            String signature = (sign == 4 ? "00" : "") + Check.text(h, Check.TO);
            gives(ABC_SHA256, "rsa", sign + 1, 2, modulus, "010001", ABC, signature);
            refused(-3, "rsa", sign + 1, 2, modulus, "010001", "6162", signature);
        }
        throwsBad("rsa", 8, 0, 0, 0, 0, 0, 0);
        throwsBad("rsa", 2, 10, 0, 0, 0, 0, 0);
    }

    private static String number(BigInteger v) {
        String s = v.toString(16);
        return s.length() < 128 ? "0".repeat(128 - s.length()) + s : s;
    }

    private static void curves() {
        promise(15);
        gives(TWICE0, "point", 0, 0, "02", "");
        gives(TWICE0, "point", 0, 1, "02", BASE0);
        gives(TWICE0, "point", 0, 2, BASE0, BASE0);
        gives("02" + BASE0.substring(2), "point", 0, 3, BASE0, "");
        gives("00", "point", 0, 0, ORDER0, "");
        gives("00", "point", 0, 4, "00", "");
        gives(BASE_ED, "point", 3, 0, "01", "");
        refused(-3, "point", 0, 4, "05", "");
        refused(-1, "point", 0, 0, "00" + ONE32, "");
        throwsBad("point", 4, 0, 0, 0, 0);
        throwsBad("point", 0, 5, 0, 0, 0);
        promise(16);
        gives("c3da55379de9c6908e94ea4df28d084f32eccf03491c71f754b4075577a28552", "agree", 3,
            "a546e36bf0527c9d3b16154b82465edd62144c0ac1fc5a18506a2244ba449ac4",
            "e6db6867583030db3594c1a424b15f7c726624ec26b3353b10a903a6d0ab1c4c");
        gives(TWICE0.substring(2), "agree", 0, "00".repeat(31) + "02", BASE0);
        refused(-1, "agree", 0, ZERO32, BASE0);
        refused(-3, "agree", 0, ONE32, "00");
        refused(-3, "agree", 3, ONE32, ZERO32);
        throwsBad("agree", 4, 0, 0, 0);
        gives(BASE0, "key", 0, ONE32);
        gives("d75a980182b10ab7d54bfed3c964073a0ee172f3daa62325af021a68f707511a", "key", 3,
            "9d61b19deffd5a60ba844af492ec2cc44449c5697b326919703bac031cae7f60");
        refused(-1, "key", 1, ONE32);
        refused(-1, "key", 0, ORDER0);
        throwsBad("key", 6, 0, 0);
        signatures();
        reused();
        hybrid();
    }

    private static void signatures() {
        promise(17);
        String secret = "c9afa9d845ba75166b5c215767b1d6934e50c3db36e89b127b8a622b120f6721";
        String sample = "73616d706c65";
        String signature = "efd48b2aacb6a8fd1140dd9cd45e81d69d2c877b56aaf991c34d0ea84eaf3716"
            + "f7cb1c942d657c41d436c7a1b6e29f65f3e900dbb9aff4064dc4ab2f843acda8";
        gives(signature, "sign", 0, 2, secret, sample, "");
        refused(-1, "sign", 0, 2, ZERO32, sample, "");
        refused(-1, "sign", 4, 2, secret, sample, "");
        throwsBad("sign", 0, 10, 0, 0, 0, 0);
        throwsBad("sign", 5, 0, 0, 0, 0, 0);
        String open = "0360fed4ba255a9d31c961eb74c6356d68c049b8923b61fa6ce669622e60f29fb6";
        answers(1, "verify", 0, 2, open, sample, signature);
        answers(0, "verify", 0, 2, open, sample + "00", signature);
        answers(0, "verify", 0, 2, "00", sample, signature);
        answers(0, "verify", 0, 2, open, sample, signature + "00");
        String key = "d75a980182b10ab7d54bfed3c964073a0ee172f3daa62325af021a68f707511a";
        String empty = "e5564300c360ac729086e2cc806e828a84877f1eb8e5d974d873e065224901555"
            + "fb8821590a33bacc61e39701cf9b46bd25bf5f0595bbe24655141438e7a100b";
        answers(1, "verify", 3, 99, key, "", empty);
        answers(0, "verify", 3, 99, key, "00", empty);
        throwsBad("verify", 2, -1, 0, 0, 0);
    }

    /** Two signatures made by hand with the nonce 1, over curve 0 and with SHA-256. */
    private static void reused() {
        promise(18);
        BigInteger q = new BigInteger(ORDER0, 16);
        BigInteger r = new BigInteger(BASE0.substring(2), 16).mod(q);
        BigInteger first = new BigInteger(ABC_SHA256, 16).add(r.multiply(BigInteger.valueOf(5))).mod(q);
        String empty = "e3b0c44298fc1c149afbf4c8996fb92427ae41e4649b934ca495991b7852b855";
        BigInteger second = new BigInteger(empty, 16).add(r.multiply(BigInteger.valueOf(5))).mod(q);
        String s = String.format("%064x%064x", r, first);
        String t = String.format("%064x%064x", r, second);
        gives("00".repeat(31) + "05", "reused", 0, 2, s, ABC, t, "");
        refused(-3, "reused", 0, 2, s, ABC, s, "");
        refused(-3, "reused", 0, 2, s, ABC, ONE32 + t.substring(64), "");
        refused(-1, "reused", 0, 2, s, ABC, t + "00", "");
        throwsBad("reused", 3, 2, 0, 0, 0, 0, 0);
        throwsBad("reused", 0, 10, 0, 0, 0, 0, 0);
    }

    /** RFC 9180's sample A.1.1. */
    private static void hybrid() {
        String info = "4f6465206f6e2061204772656369616e2055726e";
        String text = "4265617574792069732074727574682c20747275746820626561757479";
        String ad = "436f756e742d30";
        String open = "3948cfe0ad1ddb695d780e59077195da6c56506b027329794ab02bca80815c4d";
        String own = "52c4a758a802cd8b936eceea314432798d5baf2d7e9235dc084ab1b9cfa2f736";
        String sealed = "37fda3567bdbd628e88668c3c8d7e97d1d1253b6d4ea6d44c150f741f1bf4431"
            + "f938558b5d72f1a23810b4be2ab4f84331acc02fc97babc53a52ae8218a355a96d8770ac83d07bea87e13c512a";
        gives(sealed, "hybridSeal", 0, open, own, info, ad, text);
        refused(-1, "hybridSeal", 0, open + "00", own, info, ad, text);
        refused(-2, "hybridSeal", 0, open, own, info, ad, "00".repeat(8145));
        refused(-3, "hybridSeal", 0, ZERO32, own, info, ad, text);
        throwsBad("hybridSeal", 3, 0, 0, 0, 0, 0, 0);
        promise(19);
        String secret = "4612c550263fc8ad58375df3f557aac531d26850903e55a9f23f21d8534e8ac8";
        gives(text, "hybridOpen", 0, secret, info, ad, sealed);
        refused(-3, "hybridOpen", 1, secret, info, ad, sealed);
        refused(-1, "hybridOpen", 0, secret, info, ad, "00".repeat(47));
        throwsBad("hybridOpen", -1, 0, 0, 0, 0, 0);
    }

    private static String summed(int row) {
        return Check.hex(Check.sha256(Check.get(h, row)));
    }

    private static void lattices() {
        promise(19);
        h.fill(64, 0, 0);
        is(h.capsuleKeys(1, 0, 1, 2), 1184);
        is(summed(1), "f95c185fe5b2335d2fc938dd889c6425944acd74376b6952bf1130f720f6ba99");
        is(h.size(2), 2400);
        h.fill(63, 0, 0);
        is(h.capsuleKeys(1, 0, 1, 2), -1);
        throwsBad("capsuleKeys", 3, 0, 0, 0);
        CryptHouse keys = h;
        promise(20);
        h = keys;
        h.fill(32, 5, 3);
        is(h.capsule(1, 1, 3, 4, 5), 1088);
        is(h.uncapsule(1, 2, 4, 6), 32);
        is(row(6), row(5));
        is(h.capsule(2, 1, 3, 4, 5), -1);
        is(h.uncapsule(1, 1, 4, 6), -1);
        h.fill(1088, 1, 4);
        is(h.uncapsule(1, 2, 4, 6), 32);
        is(row(6).equals(row(5)), false);
        h.fill(1184, 255, 1);
        is(h.capsule(1, 1, 3, 4, 5), -3);
        h.fill(2400, 0, 2);
        is(h.uncapsule(1, 2, 4, 6), -3);
        throwsBad("capsule", -1, 0, 0, 0, 0);
        throwsBad("uncapsule", 0, 0, 0, 24);
        throwsBad("uncapsule", 3, 0, 0, 0);
        latticeSignatures();
    }

    private static void latticeSignatures() {
        promise(21);
        h.fill(32, 0, 0);
        is(h.latticeKeys(0, 0, 1, 2), 1312);
        is(summed(1), "eb4e7302842153b0fa19e8620739ad258af4929c26dd89079a7ec7d4282208e1");
        is(h.size(2), 2560);
        is(h.latticeKeys(0, 1, 1, 2), -1);
        throwsBad("latticeKeys", 0, 0, 24, 0);
        throwsBad("latticeKeys", 3, 0, 0, 0);
        is(h.latticeSign(0, 2, 3, 4, 0, 5), 2420);
        is(h.latticeSign(1, 2, 3, 4, 0, 6), -1);
        is(h.latticeSign(0, 2, 3, 4, 4, 6), -1);
        throwsBad("latticeSign", 3, 0, 0, 0, 0, 0);
        CryptHouse signed = h;
        promise(22);
        h = signed;
        is(h.latticeVerify(0, 1, 3, 4, 5), 1);
        is(h.latticeVerify(0, 1, 3, 0, 5), 0);
        is(h.latticeVerify(1, 1, 3, 4, 5), 0);
        h.fill(256, 0, 7);
        is(h.latticeVerify(0, 1, 3, 7, 5), 0);
        is(h.latticeSign(0, 2, 3, 7, 0, 6), -1);
        throwsBad("latticeVerify", -1, 0, 0, 0, 0);
    }

    private static void shares() {
        promise(22);
        gives("02" + "7b", "share", 2, 2, "57", "16");
        gives("05aabb", "share", 1, 5, "aabb", "");
        refused(-1, "share", 2, 0, "57", "16");
        refused(-1, "share", 9, 1, "57", "16".repeat(8));
        refused(-1, "share", 2, 1, "57", "1616");
        throwsBad("share", 1, 1, 24, 0, 0);
        promise(23);
        gives("57", "together", 2, "027b" + "0141");
        gives("aabb", "together", 1, "05aabb");
        refused(-1, "together", 2, "0141" + "0142");
        refused(-1, "together", 1, "0041");
        refused(-1, "together", 2, "014102");
        throwsBad("together", 1, 24, 0);
        String both = ONE32 + "00".repeat(31) + "02";
        gives(BASE0 + TWICE0, "pledge", 0, both);
        gives("00".repeat(31) + "07", "pledge", 3, both);
        gives(ZERO32, "pledge", 3, ZERO32);
        refused(-1, "pledge", 0, ZERO32);
        refused(-1, "pledge", 1, ORDER0);
        refused(-1, "pledge", 256, both);
        refused(-1, "pledge", 1, ONE32.repeat(9));
        throwsBad("pledge", 0, 0, -1);
        promise(24);
        answers(1, "fits", 3, "00".repeat(31) + "07", BASE0 + TWICE0);
        answers(0, "fits", 2, "00".repeat(31) + "07", BASE0 + TWICE0);
        answers(0, "fits", 0, ONE32, BASE0 + TWICE0);
        answers(0, "fits", 3, "00".repeat(31) + "07", BASE0 + "05" + TWICE0.substring(2));
        throwsBad("fits", 1, 24, 0);
        joint();
    }

    /** RFC 9591's sample for Ed25519: the signers 1 and 3. */
    private static void joint() {
        String secret = "929dcc590407aae7d388761cddb0c0db6f5627aea8e217f4a033f2ec83d93509";
        String random = "0fd2e39e111cdc266f6c0f4d0fd45c947761f1f5d3cb583dfcb9bbaf8d4c9fec"
            + "69cd85f631d5f7f2721ed5e40519b1366f340a87c2f6856363dbdcda348a7501";
        String commitments = "b5aa8ab305882a6fc69cbee9327e5a45e54c08af61ae77cb8207be3d2ce13de3"
            + "67e98ab55aa310c3120418e5050c9cf76cf387cb20ac9e4b6fdb6f82a469f932";
        String nonces = "812d6104142944d5a55924de6d49940956206909f2acaeedecda2b726e630407"
            + "b1110165fc2334149750b28dd813a39244f315cff14d4e89e6142f262ed83301" + commitments;
        gives(nonces, "jointNonces", secret, random);
        refused(-1, "jointNonces", secret, random + "00");
        throwsBad("jointNonces", 0, 24, 0);
        promise(25);
        String key = "15d21ccd7ee42959562fc8aa63224c8851fb3ec85a3faf66040d380fb9738673";
        String list = "01" + commitments + "03" + BASE_ED + BASE_ED;
        String other = "03" + BASE_ED + BASE_ED + "01" + commitments;
        is(Check.run(h, "jointShare", 1, secret, nonces, key, list, "74657374"), "32");
        String share = Check.text(h, Check.TO);
        is(Check.run(h, "jointSign", list, share + ONE32, key, "74657374"), "64");
        refused(-1, "jointShare", 2, secret, nonces, key, list, "74657374");
        refused(-1, "jointShare", 1, secret, nonces, key, other, "74657374");
        refused(-3, "jointShare", 1, secret, nonces, "01" + "00".repeat(31), list, "74657374");
        throwsBad("jointShare", 1, 0, 0, 0, 0, 0, 24);
        refused(-1, "jointSign", "", "", key, "74657374");
        refused(-1, "jointSign", list, share, key, "74657374");
        refused(-1, "jointSign", list, share + "ff".repeat(32), key, "74657374");
        refused(-3, "jointSign", list, share + ONE32, ZERO32.replace('0', 'f'), "74657374");
        throwsBad("jointSign", 24, 0, 0, 0, 0);
        alone(secret, nonces, "01" + commitments);
    }

    /** With one signer the joint key is the secret's own, and what comes is a signature as any other. */
    private static void alone(String secret, String nonces, String list) {
        is(Check.run(h, "point", 3, 0, secret, ""), "32");
        String key = Check.text(h, Check.TO);
        is(Check.run(h, "jointShare", 1, secret, nonces, key, list, ABC), "32");
        is(Check.run(h, "jointSign", list, Check.text(h, Check.TO), key, ABC), "64");
        answers(1, "verify", 3, 0, key, ABC, Check.text(h, Check.TO));
    }

    private static void proofs() {
        promise(26);
        is(Check.run(h, "commit", ZERO32, ONE32), "33");
        String base = Check.text(h, Check.TO);
        is(base.startsWith("02"), true);
        is(Check.run(h, "point", 0, 2, base, BASE0), "33");
        gives(Check.text(h, Check.TO), "commit", ONE32, ONE32);
        refused(-1, "commit", ONE32, ZERO32);
        refused(-1, "commit", ORDER0, ONE32);
        throwsBad("commit", 0, 0, 24);
        String two = "00".repeat(31) + "02";
        is(Check.run(h, "proveSame", two, TWICE0, ONE32), "64");
        String proof = Check.text(h, Check.TO);
        is(Check.run(h, "point", 0, 0, "04", ""), "33");
        String four = Check.text(h, Check.TO);
        is(proof.substring(0, 64), challenge(TWICE0, TWICE0, four, BASE0, TWICE0));
        refused(-1, "proveSame", ZERO32, TWICE0, ONE32);
        refused(-3, "proveSame", two, "00", ONE32);
        throwsBad("proveSame", 0, 24, 0, 0);
        promise(27);
        answers(1, "checkSame", TWICE0, TWICE0, four, proof);
        answers(0, "checkSame", BASE0, TWICE0, four, proof);
        answers(0, "checkSame", TWICE0, TWICE0, "00", proof);
        answers(0, "checkSame", TWICE0, TWICE0, four, proof + "00");
        throwsBad("checkSame", 0, 0, 0, 24);
        bits();
    }

    private static String challenge(String... points) {
        byte[] sum = Check.sha256(Check.bytes(String.join("", points)));
        return String.format("%064x", new BigInteger(1, sum).mod(new BigInteger(ORDER0, 16)));
    }

    private static void bits() {
        String[] proofs = new String[2];
        String[] commitments = new String[2];
        String two = "00".repeat(31) + "02";
        for (int v = 0; v < 2; v++) {
            is(Check.run(h, "proveBit", v, ONE32 + two + two + ONE32), "128");
            proofs[v] = Check.text(h, Check.TO);
            Check.run(h, "commit", v == 0 ? ZERO32 : ONE32, ONE32);
            commitments[v] = Check.text(h, Check.TO);
        }
        refused(-1, "proveBit", 2, ONE32 + two + two + ONE32);
        refused(-1, "proveBit", 0, ONE32 + two + two + ZERO32);
        throwsBad("proveBit", 0, 24, 0);
        promise(28);
        for (int v = 0; v < 2; v++) {
            answers(1, "checkBit", commitments[v], proofs[v]);
            answers(0, "checkBit", commitments[1 - v], proofs[v]);
            answers(0, "checkBit", "00", proofs[v]);
            answers(0, "checkBit", commitments[v], proofs[v].substring(2));
        }
        throwsBad("checkBit", 0, 24);
        delays();
    }

    /** Two squarings modulo 7 of 3 come to 4; 2^2 divided by the prime is 0, so that pi is 1. */
    private static void delays() {
        gives("0401", "delay", "03", "07", 2);
        refused(-1, "delay", "03", "08", 2);
        refused(-1, "delay", "07", "07", 2);
        refused(-1, "delay", "00", "07", 2);
        refused(-1, "delay", "03", "07", 2001);
        throwsBad("delay", 0, 0, 1, 24);
        promise(29);
        answers(1, "checkDelay", "03", "07", 2, "0401");
        answers(0, "checkDelay", "03", "07", 2, "0301");
        answers(0, "checkDelay", "03", "07", 2, "040100");
        answers(0, "checkDelay", "03", "07", 2, "040b");
        answers(-1, "checkDelay", "03", "07", 0, "0401");
        throwsBad("checkDelay", 0, 24, 1, 0);
    }

    private static String pair(String left, String right) {
        return Check.hex(Check.sha256(Check.bytes("01" + left + right)));
    }

    private static void log() {
        promise(29);
        String[] leaves = new String[3];
        for (int i = 0; i < 3; i++) {
            Check.row(h, i, new byte[] {(byte) i});
            is(h.leaf(i), i);
            leaves[i] = Check.hex(Check.sha256(new byte[] {0, (byte) i}));
        }
        throwsBad("leaf", 24);
        CryptHouse full = new CryptHouse();
        for (int i = 0; i < 1024; i++) {
            full.leaf(0);
        }
        is(full.leaf(0), -2);
        is(full.count(2), 1024);
        CryptHouse three = h;
        promise(30);
        h = three;
        String head = pair(pair(leaves[0], leaves[1]), leaves[2]);
        String[] heads = {"e3b0c44298fc1c149afbf4c8996fb92427ae41e4649b934ca495991b7852b855", leaves[0],
            pair(leaves[0], leaves[1]), head};
        for (int n = 0; n <= 3; n++) {
            is(h.head(n, 5), 32);
            is(row(5), heads[n]);
        }
        is(h.head(4, 5), -1);
        throwsBad("head", 0, 24);
        is(h.path(1, 3, 6), 64);
        is(row(6), leaves[0] + leaves[2]);
        is(h.path(0, 1, 6), 0);
        is(h.path(3, 3, 6), -1);
        is(h.path(0, 4, 6), -1);
        throwsBad("path", 0, 1, 24);
        checkedLog(leaves, heads);
    }

    private static void checkedLog(String[] leaves, String[] heads) {
        CryptHouse three = h;
        promise(31);
        h = three;
        is(h.growth(1, 3, 6), 64);
        is(row(6), leaves[1] + leaves[2]);
        is(h.growth(3, 3, 6), 0);
        is(h.growth(0, 3, 6), -1);
        is(h.growth(1, 4, 6), -1);
        throwsBad("growth", 1, 1, 24);
        answers(1, "checkPath", 1, 3, "01", leaves[0] + leaves[2], heads[3]);
        answers(0, "checkPath", 0, 3, "01", leaves[0] + leaves[2], heads[3]);
        answers(0, "checkPath", 3, 3, "01", leaves[0] + leaves[2], heads[3]);
        answers(0, "checkPath", 1, 3, "02", leaves[0] + leaves[2], heads[3]);
        answers(0, "checkPath", 1, 3, "01", leaves[0], heads[3]);
        throwsBad("checkPath", 0, 1, 0, 0, 24);
        promise(32);
        answers(1, "checkGrowth", 1, 3, heads[1], heads[3], leaves[1] + leaves[2]);
        answers(1, "checkGrowth", 2, 2, heads[2], heads[2], "");
        answers(0, "checkGrowth", 1, 3, heads[2], heads[3], leaves[1] + leaves[2]);
        answers(0, "checkGrowth", 3, 1, heads[1], heads[3], leaves[1] + leaves[2]);
        answers(0, "checkGrowth", 0, 3, heads[1], heads[3], leaves[1] + leaves[2]);
        throwsBad("checkGrowth", 1, 1, 0, 0, -1);
    }

    private static void box() {
        promise(32);
        answers(16, "put", 0, "00".repeat(16), 63, 2, 1, 1);
        answers(-4, "put", 0, "00".repeat(16), 63, 2, 1, 1);
        answers(-1, "put", 0, "", 63, 2, 1, 1);
        answers(-1, "put", 1, "00".repeat(65), 63, 2, 1, 1);
        answers(-1, "put", 1, "00", 64, 2, 1, 1);
        answers(-1, "put", 1, "00", 63, 0, 1, 1);
        answers(-1, "put", 1, "00", 63, 1000001, 1, 1);
        answers(-1, "put", 1, "00", 63, 2, 1, 4);
        throwsBad("put", 16, 0, 0, 1, 0, 0);
        throwsBad("put", 0, 0, 0, 1, 8, 0);
        promise(33);
        answers(16, "put", 0, "00".repeat(16), 63, 2, 1, 1);
        is(h.approve(0, 1), -5);
        is(h.approve(1, 1), -4);
        is(h.approve(0, 7), 1);
        is(h.approve(0, 0), 2);
        throwsBad("approve", 0, 8);
        is(h.drop(0, 2), -5);
        is(h.drop(0, 1), 0);
        is(h.drop(0, 1), -4);
        throwsBad("drop", -1, 0);
        acts();
        looks();
    }

    private static String trail(String before, int act, int role, int place, int answer) {
        String next = String.format("%02x%02x%02x%02x", act, role, place, answer & 255);
        return Check.hex(Check.sha256(Check.bytes(before + next)));
    }

    private static void acts() {
        promise(34);
        answers(16, "put", 3, "00".repeat(16), 1 + 4, 2, 1, 1);
        String trail = trail(ZERO32, 5, 0, 3, 16);
        Object[][] calls = {{0, 1, 4, -4}, {0, 2, 3, -5}, {1, 1, 3, -6}, {0, 1, 3, -8}};
        for (Object[] c : calls) {
            is(Check.call(h, "act", c[0], c[1], c[2], 0, 0, 9), String.valueOf(c[3]));
            trail = trail(trail, (int) c[0], (int) c[1], (int) c[2], (int) c[3]);
        }
        h.approve(3, 0);
        trail = trail(trail, 6, 0, 3, 1);
        String nonce = trail.substring(0, 24);
        is(Check.run(h, "act", 0, 1, 3, 0, ABC), "31");
        String sealed = Check.text(h, Check.TO);
        gives(sealed.substring(24), "seal", 0, "00".repeat(16), nonce, "", ABC);
        is(sealed.substring(0, 24), nonce);
        trail = trail(trail, 0, 1, 3, 31);
        is(h.trail(9), 32);
        is(row(9), trail);
        h.approve(3, 0);
        is(Check.run(h, "act", 2, 1, 3, 0, ABC), "32");
        gives(Check.text(h, Check.TO), "sum", 2, 0, "00".repeat(16), ABC);
        is(h.act(0, 1, 3, 0, 0, 9), -7);
        throwsBad("act", 5, 0, 0, 0, 0, 0);
        throwsBad("act", 0, 0, 0, 16, 0, 0);
        throwsBad("trail", 24);
    }

    private static void looks() {
        promise(35);
        answers(5, "put", 15, "0102030405", 33, 7, 6, 2);
        h.approve(15, 0);
        h.approve(15, 3);
        int[] due = {5, 33, 7, 6, 2, 9};
        for (int what = 0; what < 6; what++) {
            is(h.look(15, what), due[what]);
            is(h.look(14, what), -4);
        }
        throwsBad("look", 0, 6);
        throwsBad("look", 16, 0);
        h.feed(2, 0, 0, 0);
        h.begin(0, 0);
        h.leaf(0);
        h.leaf(1);
        h.leaf(2);
        int[] counted = {2, 1, 3, 1};
        for (int what = 0; what < 4; what++) {
            is(h.count(what), counted[what]);
        }
        throwsBad("count", 4);
        throwsBad("count", -1);
    }
}
