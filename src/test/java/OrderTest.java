import java.util.ArrayList;
import java.util.Arrays;
import java.util.Collections;
import java.util.List;
import java.util.Random;

/** What a call answers does not depend on the calls ahead of it: each on a new object, and many in many orders on one. */
public final class OrderTest {
    private static final Random RANDOM = new Random(13);

    public static void main(String[] args) {
        List<Object[]> all = new ArrayList<>();
        for (Object[] example : Examples.all()) {
            String name = (String) example[0];
            if (!name.equals("more") && !name.equals("put") && !name.equals("leaf")) {
                all.add(example);
            }
        }
        List<String> due = new ArrayList<>();
        for (Object[] example : all) {
            due.add(answer(new CryptHouse(), example));
        }
        List<Integer> order = new ArrayList<>();
        for (int i = 0; i < all.size(); i++) {
            order.add(i);
        }
        for (int round = 0; round < 25; round++) {
            Collections.shuffle(order, RANDOM);
            CryptHouse h = new CryptHouse();
            for (int i : order) {
                String what = Arrays.toString(Arrays.copyOf(all.get(i), 3));
                Check.due(what + " in its turn", answer(h, all.get(i)), due.get(i));
                if (RANDOM.nextInt(4) == 0) {
                    odd(h, all.get(i));
                    Check.due(what + " behind a refusal", answer(h, all.get(i)), due.get(i));
                }
            }
        }
        Check.end();
    }

    private static String answer(CryptHouse h, Object[] example) {
        Object[] told = Arrays.copyOfRange(example, 1, example.length);
        int writes = Check.method((String) example[0]).getParameterCount() - told.length;
        String answer = Check.run(h, (String) example[0], told);
        for (int i = 0; i < writes; i++) {
            answer += " " + Check.text(h, Check.TO - i);
        }
        return answer;
    }

    /** The same call with a row cut, filled or changed: it may be refused, or done otherwise. */
    private static void odd(CryptHouse h, Object[] example) {
        Object[] other = Arrays.copyOfRange(example, 1, example.length);
        for (int i = 0; i < other.length; i++) {
            if (other[i] instanceof byte[] b && b.length > 0 && RANDOM.nextBoolean()) {
                int n = RANDOM.nextInt(3) == 0 ? b.length - 1 : b.length;
                other[i] = Arrays.copyOf(b, n);
                if (n > 0) {
                    ((byte[]) other[i])[RANDOM.nextInt(n)] ^= 1 << RANDOM.nextInt(8);
                }
            }
        }
        Check.run(h, (String) example[0], other);
    }
}
