import java.lang.reflect.InvocationTargetException;
import java.lang.reflect.Method;
import java.lang.reflect.Modifier;
import java.util.ArrayList;
import java.util.Comparator;
import java.util.List;
import java.util.NoSuchElementException;
import java.util.Random;

/** Calls at random, of rows of all sizes: nothing but the document's exceptions, and a refusal changes nothing. */
public final class FuzzTest {
    private static final int[] SIZES = {
        0, 1, 2, 7, 8, 9, 12, 13, 15, 16, 17, 24, 28, 31, 32, 33, 40, 47, 48, 49, 63, 64, 65, 66, 96, 97, 127, 128, 129, 130,
        132, 160, 192, 255, 256, 257, 264, 768, 800, 1088, 1184, 1312, 1568, 1632, 1952, 2400, 2420, 2560, 2592, 3168, 3309,
        4032, 4627, 4896, 8164, 8176, 8184, 8191, 8192
    };
    private static final Random RANDOM = new Random(11);
    private static final List<Method> METHODS = new ArrayList<>();

    public static void main(String[] args) throws Exception {
        for (Method m : CryptHouse.class.getDeclaredMethods()) {
            if (Modifier.isPublic(m.getModifiers())) {
                METHODS.add(m);
            }
        }
        METHODS.sort(Comparator.comparing(Method::getName));
        for (int run = 0; run < 120; run++) {
            CryptHouse h = new CryptHouse();
            for (int i = 0; i < 400; i++) {
                if (RANDOM.nextInt(3) == 0) {
                    fill(h);
                } else {
                    one(h, METHODS.get(RANDOM.nextInt(METHODS.size())));
                }
            }
        }
        Check.end();
    }

    private static void fill(CryptHouse h) {
        int n = SIZES[RANDOM.nextInt(SIZES.length)];
        int row = RANDOM.nextInt(6);
        if (RANDOM.nextInt(4) == 0) {
            h.fill(n, RANDOM.nextInt(2) * 255, row);
            return;
        }
        byte[] b = new byte[n];
        RANDOM.nextBytes(b);
        if (n > 0) {
            b[0] = (byte) (RANDOM.nextBoolean() ? RANDOM.nextInt(5) : b[0]);
        }
        h.keep(23);
        Check.row(h, row, b);
    }

    private static int number() {
        int k = RANDOM.nextInt(60);
        if (k < 20) {
            return RANDOM.nextInt(3);
        }
        if (k < 56) {
            return RANDOM.nextInt(6);
        }
        return k < 58 ? RANDOM.nextInt(300) : k == 58 ? (RANDOM.nextBoolean() ? Integer.MAX_VALUE : Integer.MIN_VALUE) : -1;
    }

    private static String state(CryptHouse h) {
        StringBuilder s = new StringBuilder();
        for (int i = 0; i < 24; i++) {
            int n = h.size(i);
            s.append(n).append(',');
            for (int at = 0; at < n; at += Math.max(8, n / 3)) {
                s.append(h.octets(i, at)).append(',');
            }
        }
        for (int i = 0; i < 4; i++) {
            s.append(h.count(i)).append(',');
        }
        for (int i = 0; i < 96; i++) {
            s.append(h.look(i / 6, i % 6)).append(',');
        }
        return s.toString();
    }

    private static void one(CryptHouse h, Method m) throws Exception {
        Class<?>[] types = m.getParameterTypes();
        Object[] given = new Object[types.length];
        for (int i = 0; i < types.length; i++) {
            given[i] = types[i] == boolean.class ? (Object) RANDOM.nextBoolean()
                : types[i] == long.class ? (Object) RANDOM.nextLong() : (Object) number();
        }
        String before = state(h);
        String what = m.getName() + java.util.Arrays.toString(given);
        try {
            Object answer = m.invoke(h, given);
            if (answer instanceof Integer v && v < 0 && !m.getName().equals("compare")) {
                Check.due(what + " changes", state(h).equals(before), true);
            }
        } catch (InvocationTargetException e) {
            Class<?> type = e.getCause().getClass();
            boolean fine = type == IllegalArgumentException.class
                || type == IllegalStateException.class && m.getName().equals("feed")
                || type == NoSuchElementException.class && m.getName().equals("octets");
            Check.due(what + " throws " + type, fine, true);
            Check.due(what + " changes", state(h).equals(before), true);
        }
    }
}
