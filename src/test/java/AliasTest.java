import java.util.ArrayList;
import java.util.Arrays;
import java.util.List;
import java.util.Random;

/** What a call reads is read before it writes: the row that is written may be each of those that are read. */
public final class AliasTest {
    /** Calls that are done, with the sizes of the rows that they read as r and a number; at last comes the written row. */
    private static final String[] CALLS = {
        "join r5 r9", "xor r9 r9", "cut r9 2 5", "hash 2 0 r40", "sum 2 0 r20 r30", "sum 12 20 r20 r30", "sum 14 0 r16 r33",
        "sum 15 0 r32 r33", "sum 10 50 r20 r30", "derive 2 r20 r10 r5 70", "stretch 2 r10 r10 2 40", "scrypt r10 r10 4 1 1 40",
        "crypt 0 1 0 r16 r16 r32", "crypt 0 4 0 r16 r16 r33", "crypt 0 5 0 r32 r16 r33", "crypt 2 6 0 r24 r8 r20",
        "stream r32 r12 7 r70", "seal 0 r16 r12 r9 r40", "seal 1 r16 r12 r9 r40", "seal 2 r32 r12 r9 r40",
        "seal 3 r16 r12 r9 r40", "seal 4 r32 r12 r9 r40", "wrap 0 0 r16 r24", "wrap 1 0 r16 r21", "format 256 0 r16 r9 r20",
        "work 0 r9 r8 r9", "work 2 r9 r8 r9", "work 3 r9 r8 r9", "work 7 r9 r8 r9", "work 8 r9 r8 r9", "work 10 r9 r8 r9",
        "rsa 2 0 r64 r20 r20 n41", "rsa 6 2 r80 r20 r20 r1", "point 0 0 r32 r1", "point 3 0 r32 r1", "agree 3 r32 r32",
        "key 0 r32", "key 3 r32", "key 5 r32", "sign 0 2 r32 r20 r5", "sign 3 0 r32 r20 r5", "sign 4 0 r32 r20 r32",
        "hybridSeal 0 r32 r32 r5 r6 r20", "share 3 5 r10 r20", "together 2 t10", "pledge 7 q64", "jointNonces r32 r64",
        "commit q32 q32", "proveBit 1 q128", "delay r20 d21 30"
    };
    private static final Random RANDOM = new Random(10);

    public static void main(String[] args) {
        for (String call : CALLS) {
            one(call.split(" "));
        }
        Check.end();
    }

    private static byte[] some(char sort, int n) {
        byte[] b = new byte[n];
        RANDOM.nextBytes(b);
        for (int i = 0; i < n; i++) {
            if (sort == 'n' && b[i] == 0) {
                b[i] = 1;
            }
            // Numbers that are below an order.
            if (sort == 'q' && i % 32 == 0) {
                b[i] &= 63;
            }
        }
        if (sort == 't') {
            b[0] = 1;
            b[n / 2] = 2;
        }
        if (n > 0 && sort == 'd') {
            b[0] |= 1;
            b[n - 1] |= 1;
        }
        if (n >= 64 && sort == 'r') {
            b[0] |= 1;
        }
        return b;
    }

    private static void one(String[] call) {
        CryptHouse h = new CryptHouse();
        List<Object> given = new ArrayList<>();
        List<byte[]> rows = new ArrayList<>();
        for (int i = 1; i < call.length; i++) {
            char sort = call[i].charAt(0);
            if (sort >= 'a') {
                byte[] b = some(sort, Integer.parseInt(call[i].substring(1)));
                given.add(rows.size());
                rows.add(b);
            } else {
                given.add(Integer.parseInt(call[i]));
            }
        }
        given.add(23);
        String what = String.join(" ", call);
        fill(h, rows);
        String answer = Check.call(h, call[0], given.toArray());
        String text = Check.text(h, 23);
        Check.due(what + " is done", answer, String.valueOf(text.length() / 2));
        for (int i = 0; i < rows.size(); i++) {
            Check.due(what + " only reads", Check.text(h, i), Check.hex(rows.get(i)));
        }
        for (int i = 0; i < rows.size(); i++) {
            fill(h, rows);
            given.set(given.size() - 1, i);
            Check.due(what + " into " + i, Check.call(h, call[0], given.toArray()), answer);
            Check.due(what + " into " + i, Check.text(h, i), text);
            for (int k = 0; k < rows.size(); k++) {
                if (k != i) {
                    Check.due(what + " left " + k, Check.text(h, k), Check.hex(rows.get(k)));
                }
            }
        }
        Check.due(what + " from a new object", again(call[0], given, rows, Arrays.asList(answer, text)), "as before");
    }

    private static void fill(CryptHouse h, List<byte[]> rows) {
        for (int i = 0; i < rows.size(); i++) {
            Check.row(h, i, rows.get(i));
        }
    }

    private static String again(String name, List<Object> given, List<byte[]> rows, List<String> want) {
        CryptHouse h = new CryptHouse();
        fill(h, rows);
        given.set(given.size() - 1, 23);
        String answer = Check.call(h, name, given.toArray());
        return Arrays.asList(answer, Check.text(h, 23)).equals(want) ? "as before" : "otherwise";
    }
}
