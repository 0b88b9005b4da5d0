import java.lang.reflect.Method;
import java.lang.reflect.Modifier;
import java.util.ArrayList;
import java.util.Comparator;
import java.util.List;
import java.util.Random;
import java.util.Set;

/**
 * Calls at random on two objects: what is refused, what throws and what only looks is done with the first one alone. At
 * last both must hold the same: rows, tape, the hash under way, log, box and trail.
 */
public final class StillTest {
    /** Calls that change nothing, whatever they answer. */
    private static final Set<String> LOOKING = Set.of("size", "octets", "compare", "prime", "witness", "verify", "latticeVerify",
        "fits", "checkSame", "checkBit", "checkDelay", "checkPath", "checkGrowth", "look", "count");
    private static final int[] SIZES = {0, 1, 8, 12, 16, 24, 32, 33, 48, 64, 65, 96, 128, 129, 256, 800, 8164, 8176, 8192};
    private static final Random RANDOM = new Random(12);

    public static void main(String[] args) {
        List<Method> methods = new ArrayList<>();
        for (Method m : CryptHouse.class.getDeclaredMethods()) {
            if (Modifier.isPublic(m.getModifiers())) {
                methods.add(m);
            }
        }
        methods.sort(Comparator.comparing(Method::getName));
        int kept = 0;
        int done = 0;
        for (int run = 0; run < 60; run++) {
            Twin t = new Twin().told("run " + run);
            for (int i = 0; i < 400; i++) {
                if (RANDOM.nextInt(4) == 0) {
                    t.both("fill", SIZES[RANDOM.nextInt(SIZES.length)], RANDOM.nextInt(), RANDOM.nextInt(5));
                    continue;
                }
                Method m = methods.get(RANDOM.nextInt(methods.size()));
                Object[] given = given(m);
                String answer = Check.call(t.seen, m.getName(), given);
                boolean refused = answer.startsWith("-") || answer.startsWith("throws");
                // A refused act changes the trail.
                if (LOOKING.contains(m.getName()) || refused && !(m.getName().equals("act") && answer.startsWith("-"))) {
                    kept++;
                    continue;
                }
                done++;
                Check.due(m.getName() + " of the twin", Check.call(t.spared, m.getName(), given), answer);
            }
            t.end();
        }
        Check.due("enough of both", kept > 5000 && done > 3000, true);
        Check.end();
    }

    private static Object[] given(Method m) {
        Object[] given = new Object[m.getParameterCount()];
        for (int i = 0; i < given.length; i++) {
            Class<?> type = m.getParameterTypes()[i];
            given[i] = type == boolean.class ? (Object) RANDOM.nextBoolean() : type == long.class ? (Object) RANDOM.nextLong() : (Object) number();
        }
        return given;
    }

    private static int number() {
        int k = RANDOM.nextInt(40);
        return k < 30 ? RANDOM.nextInt(5) : k < 36 ? RANDOM.nextInt(24) : k < 38 ? RANDOM.nextInt(1200) : k == 38 ? -1 : RANDOM.nextInt();
    }
}
