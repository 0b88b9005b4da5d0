import java.lang.reflect.InvocationTargetException;
import java.lang.reflect.Method;
import java.lang.reflect.Modifier;
import java.security.MessageDigest;
import java.util.ArrayList;
import java.util.Arrays;
import java.util.HexFormat;
import java.util.List;

/** What the tests have in common: rows from bytes and back, calls by name, and the count of what was wrong. */
final class Check {
    static final int TO = 23;
    private static int right;
    private static int wrong;

    private Check() {
    }

    static void due(String what, Object got, Object want) {
        if (want.equals(got)) {
            right++;
        } else {
            wrong++;
            System.out.println(what + " answered " + got + ", due is " + want);
        }
    }

    static void end() {
        System.out.println(right + " answers as due, " + wrong + " not");
        if (wrong != 0 || right == 0) {
            System.exit(1);
        }
    }

    static String hex(byte[] b) {
        return HexFormat.of().formatHex(b);
    }

    static byte[] bytes(String hex) {
        return HexFormat.of().parseHex(hex);
    }

    static void row(CryptHouse h, int row, byte[] b) {
        for (int i = 0; i < b.length; i += 24) {
            long[] parts = new long[3];
            int n = Math.min(24, b.length - i);
            for (int k = 0; k < n; k++) {
                parts[k / 8] |= (b[i + k] & 255L) << 8 * (k % 8);
            }
            h.feed(n, parts[0], parts[1], parts[2]);
        }
        h.keep(row);
    }

    static void row(CryptHouse h, int row, String hex) {
        row(h, row, bytes(hex));
    }

    static byte[] get(CryptHouse h, int row) {
        byte[] b = new byte[h.size(row)];
        for (int i = 0; i < b.length; i += 8) {
            long v = h.octets(row, i);
            for (int k = 0; k < 8 && i + k < b.length; k++) {
                b[i + k] = (byte) (v >>> 8 * k);
            }
        }
        return b;
    }

    static String text(CryptHouse h, int row) {
        return hex(get(h, row));
    }

    static byte[] sha256(byte[]... parts) {
        try {
            MessageDigest d = MessageDigest.getInstance("SHA-256");
            for (byte[] p : parts) {
                d.update(p);
            }
            return d.digest();
        } catch (java.security.NoSuchAlgorithmException e) {
            throw new IllegalStateException(e);
        }
    }

    static byte[] join(byte[]... parts) {
        int n = 0;
        for (byte[] p : parts) {
            n += p.length;
        }
        byte[] all = new byte[n];
        n = 0;
        for (byte[] p : parts) {
            System.arraycopy(p, 0, all, n, p.length);
            n += p.length;
        }
        return all;
    }

    static Method method(String name) {
        for (Method m : CryptHouse.class.getDeclaredMethods()) {
            if (m.getName().equals(name) && Modifier.isPublic(m.getModifiers())) {
                return m;
            }
        }
        throw new IllegalStateException(name);
    }

    /** A call by its name: its answer, or throws. and the exception's name. */
    static String call(CryptHouse h, String name, Object... args) {
        Method m = method(name);
        Object[] given = new Object[args.length];
        for (int i = 0; i < args.length; i++) {
            Class<?> type = m.getParameterTypes()[i];
            given[i] = args[i];
            if (type == boolean.class && args[i] instanceof Integer v) {
                given[i] = v != 0;
            } else if (type == long.class && args[i] instanceof Integer v) {
                given[i] = (long) v;
            }
        }
        try {
            return String.valueOf(m.invoke(h, given));
        } catch (InvocationTargetException e) {
            return "throws." + e.getCause().getClass().getSimpleName();
        } catch (IllegalAccessException e) {
            throw new IllegalStateException(e);
        }
    }

    /** A call whose rows are put where they are needed; what it writes goes to row TO. */
    static String run(CryptHouse h, String name, Object... args) {
        List<Object> given = new ArrayList<>();
        int next = 0;
        for (Object arg : args) {
            if (arg instanceof byte[] b) {
                row(h, next, b);
                given.add(next);
                next++;
            } else if (arg instanceof String s) {
                row(h, next, bytes(s));
                given.add(next);
                next++;
            } else {
                given.add(arg);
            }
        }
        int missing = method(name).getParameterCount() - given.size();
        for (int i = missing; i > 0; i--) {
            given.add(TO - i + 1);
        }
        return call(h, name, given.toArray());
    }

    /** As run, of a call that is to be refused: nothing may have changed. */
    static void refused(CryptHouse h, String want, String name, Object... args) {
        byte[] mark = {1, 2, 3};
        row(h, TO, mark);
        due(name + Arrays.deepToString(args), run(h, name, args), want);
        due(name + " left its row", hex(get(h, TO)), hex(mark));
    }

    /** As run, of a call that writes: its answer is the size of what is due, and the row holds nothing else. */
    static void gives(CryptHouse h, String want, String name, Object... args) {
        row(h, TO, "5e5e5e");
        due(name + Arrays.deepToString(args), run(h, name, args), String.valueOf(want.length() / 2));
        due(name + " wrote", text(h, TO), want);
    }
}
