import java.lang.reflect.Constructor;
import java.lang.reflect.Field;
import java.lang.reflect.Method;
import java.lang.reflect.Modifier;
import java.util.ArrayList;
import java.util.Arrays;
import java.util.List;

/** The public face, and the exceptions that are thrown ahead of all. */
public final class FaceTest {
    /** Of each call: its arguments' sorts. r a row, n any number, b a boolean, else how many there are, from 0 on. */
    private static final String[] CALLS = {
        "keep r", "fill n n r", "join r r r", "cut r n n r", "xor r r r", "size r", "compare r r", "hash 14 n r r",
        "begin 14 n", "more r", "done r", "sum 16 n r r r", "derive 10 r r r n r", "stretch 10 r r n n r",
        "scrypt r r n n n n r", "crypt 3 7 b r r r r", "stream r r n r r", "seal 5 r r r r r", "open 5 r r r r r",
        "wrap b b r r r", "format n b r r r r", "work 12 r r r r", "prime r n", "witness r r r", "rsa 8 10 r r r r r",
        "point 4 5 r r r", "agree 4 r r r", "key 6 r r", "sign 5 10 r r r r", "verify 5 10 r r r", "reused 3 10 r r r r r",
        "hybridSeal 3 r r r r r r", "hybridOpen 3 r r r r r", "capsuleKeys 3 r r r", "capsule 3 r r r r",
        "uncapsule 3 r r r", "latticeKeys 3 r r r", "latticeSign 3 r r r r r", "latticeVerify 3 r r r r",
        "share n n r r r", "together n r r", "pledge n r r", "fits n r r", "jointNonces r r r",
        "jointShare n r r r r r r", "jointSign r r r r r", "commit r r r", "proveSame r r r r", "checkSame r r r r",
        "proveBit n r r", "checkBit r r", "delay r r n r", "checkDelay r r n r", "leaf r", "head n r", "path n n r",
        "growth n n r", "checkPath n n r r r", "checkGrowth n n r r r", "put 16 r n n 8 n", "approve 16 8", "drop 16 8",
        "act 5 8 16 16 r r", "trail r", "look 16 6", "count 4"
    };

    public static void main(String[] args) {
        for (String call : CALLS) {
            throwsAhead(call.split(" "));
            allowedEnds(call.split(" "));
        }
        signaturesHash();
        face();
        Check.end();
    }

    private static Object[] zeros(String[] call) {
        Object[] given = new Object[call.length - 1];
        // The numbers are refused ones (-1), so that an exception must come ahead of the refusals.
        for (int k = 1; k < call.length; k++) {
            given[k - 1] = call[k].equals("n") ? -1 : 0;
        }
        return given;
    }

    /** "IllegalArgumentException for a row, a curve, a kind, an op, a place, a role that there is none of, ahead of all." */
    private static void throwsAhead(String[] call) {
        Twin t = new Twin().told("that there is none of, ahead of all");
        t.both("feed", 5, 1L, 2L, 3L);
        for (int i = 1; i < call.length; i++) {
            if (call[i].equals("n") || call[i].equals("b")) {
                continue;
            }
            int many = call[i].equals("r") ? 24 : Integer.parseInt(call[i]);
            for (int bad : new int[] {-1, many, Integer.MIN_VALUE, Integer.MAX_VALUE}) {
                Object[] given = zeros(call);
                given[i - 1] = bad;
                t.thrown(call[0], given);
            }
        }
        t.end();
    }

    /** The first and the last that there is of each argument do not throw. */
    private static void allowedEnds(String[] call) {
        for (int i = 1; i < call.length; i++) {
            if (call[i].equals("n") || call[i].equals("b")) {
                continue;
            }
            int many = call[i].equals("r") ? 24 : Integer.parseInt(call[i]);
            for (int v = 0; v < many; v++) {
                Object[] given = zeros(call);
                given[i - 1] = v;
                String answer = Check.call(new CryptHouse(), call[0], given);
                Check.due(call[0] + Arrays.toString(given), answer.startsWith("throws"), false);
            }
        }
    }

    /** "h is looked at by kinds 0 .. 2 alone: others than 0 .. 9 throw there". */
    private static void signaturesHash() {
        Twin t = new Twin().told("h is looked at by kinds 0 .. 2 alone: others than 0 .. 9 throw there");
        for (int kind = 0; kind < 5; kind++) {
            for (int h : new int[] {-1, 10, Integer.MIN_VALUE, Integer.MAX_VALUE}) {
                if (kind < 3) {
                    t.thrown("sign", kind, h, 0, 1, 2, 3);
                    t.thrown("verify", kind, h, 0, 1, 2);
                } else {
                    t.leaves(-1, "sign", kind, h, 0, 1, 2, 3);
                    t.leaves(0, "verify", kind, h, 0, 1, 2);
                }
            }
            for (int h = 0; h < 10; h++) {
                t.leaves(-1, "sign", kind, h, 0, 1, 2, 3);
                t.leaves(0, "verify", kind, h, 0, 1, 2);
            }
        }
        t.end();
    }

    private static void face() {
        List<String> named = new ArrayList<>(List.of("feed", "octets"));
        for (String call : CALLS) {
            named.add(call.split(" ")[0]);
        }
        int found = 0;
        for (Method m : CryptHouse.class.getDeclaredMethods()) {
            if (!Modifier.isPrivate(m.getModifiers())) {
                found++;
                Check.due(m.getName() + " is of the face", named.contains(m.getName()), true);
                Check.due(m.getName() + " is public", Modifier.isPublic(m.getModifiers()), true);
            } else {
                Check.due(m.getName() + " has a name of its own", named.contains(m.getName()), false);
            }
        }
        Check.due("how many calls", found, named.size());
        for (Field f : CryptHouse.class.getDeclaredFields()) {
            Check.due(f.getName() + " is private", Modifier.isPrivate(f.getModifiers()), true);
        }
        for (Constructor<?> c : CryptHouse.class.getDeclaredConstructors()) {
            Check.due("the constructor", Modifier.isPublic(c.getModifiers()) && c.getParameterCount() == 0, true);
        }
    }
}
