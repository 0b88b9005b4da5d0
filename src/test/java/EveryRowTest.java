import java.util.ArrayList;
import java.util.Arrays;
import java.util.List;

/**
 * Of every call that reads rows: each of its rows may be the first and the last one, may be the row that is written, and
 * may be named twice; a row that there is none of throws ahead of all, and nothing has changed.
 */
public final class EveryRowTest {
    private static final int[] NONE = {-1, 24, 25, Integer.MIN_VALUE, Integer.MAX_VALUE};
    private static int writesLeft;

    public static void main(String[] args) {
        for (Object[] example : Examples.all()) {
            String name = (String) example[0];
            Object[] told = Arrays.copyOfRange(example, 1, example.length);
            int writes = Check.method(name).getParameterCount() - told.length;
            if (name.equals("more")) {
                continue;
            }
            List<String> due = due(name, told, writes);
            ends(name, told, writes, due);
            written(name, told, writes, due);
            twice(name, told, writes, due);
            none(name, told, writes);
        }
        Check.due("every call was seen", writesLeft > 100, true);
        Check.end();
    }

    /** Puts the rows from a number on: where each of them is. */
    private static int[] put(CryptHouse h, Object[] told, int first, int step) {
        int[] at = new int[told.length];
        int row = first;
        for (int i = 0; i < told.length; i++) {
            at[i] = -1;
            if (isRow(told[i])) {
                Check.row(h, row, bytes(told[i]));
                at[i] = row;
                row += step;
            }
        }
        return at;
    }

    private static boolean isRow(Object told) {
        return told instanceof byte[] || told instanceof String;
    }

    private static byte[] bytes(Object told) {
        return told instanceof byte[] b ? b : Check.bytes((String) told);
    }

    private static Object[] given(Object[] told, int[] at, int... to) {
        List<Object> given = new ArrayList<>();
        for (int i = 0; i < told.length; i++) {
            given.add(at[i] >= 0 ? (Object) at[i] : told[i]);
        }
        for (int row : to) {
            given.add(row);
        }
        return given.toArray();
    }

    /** What a call with rows of its own answers and writes. */
    private static List<String> due(String name, Object[] told, int writes) {
        CryptHouse h = new CryptHouse();
        int[] at = put(h, told, 1, 1);
        Object[] given = given(told, at, to(writes, 19, 20));
        List<String> due = new ArrayList<>();
        due.add(Check.call(h, name, given));
        Check.due(name + " is done", due.get(0).startsWith("-") || due.get(0).startsWith("throws"), false);
        for (int i = 0; i < writes; i++) {
            due.add(Check.text(h, writes == 2 ? 19 + i : 19));
        }
        if (writes > 0) {
            Check.due(name + " answers the size", due.get(0), String.valueOf(due.get(1).length() / 2));
        }
        for (int i = 0; i < told.length; i++) {
            if (at[i] >= 0) {
                Check.due(name + " only reads", Check.text(h, at[i]), Check.hex(bytes(told[i])));
            }
        }
        writesLeft++;
        return due;
    }

    private static int[] to(int writes, int first, int second) {
        return writes == 0 ? new int[0] : writes == 1 ? new int[] {first} : new int[] {first, second};
    }

    /** Rows 0 and 23 are rows: each argument in its turn is one of them. */
    private static void ends(String name, Object[] told, int writes, List<String> due) {
        for (int end : new int[] {0, 23}) {
            for (int i = 0; i < told.length + writes; i++) {
                if (i < told.length && !isRow(told[i])) {
                    continue;
                }
                CryptHouse h = new CryptHouse();
                int[] at = put(h, told, 5, 1);
                int[] to = to(writes, 19, 20);
                if (i < told.length) {
                    Check.row(h, end, bytes(told[i]));
                    at[i] = end;
                } else {
                    to[i - told.length] = end;
                }
                Check.due(name + " with row " + end, Check.call(h, name, given(told, at, to)), due.get(0));
                for (int k = 0; k < writes; k++) {
                    Check.due(name + " with row " + end, Check.text(h, to[k]), due.get(k + 1));
                }
            }
        }
    }

    /** "What it reads is read before it writes: the row that is written (to, or as told) may be one that is read." */
    private static void written(String name, Object[] told, int writes, List<String> due) {
        CryptHouse h = new CryptHouse();
        for (int i = 0; i < told.length && writes > 0; i++) {
            if (!isRow(told[i])) {
                continue;
            }
            for (int which = 0; which < (writes == 1 ? 1 : 4); which++) {
                int[] at = put(h, told, 3, 2);
                int[] to = which == 0 ? to(writes, at[i], 20) : which == 1 ? to(writes, 20, at[i])
                    : which == 2 ? to(writes, at[i], at[i]) : to(writes, 20, 20);
                Check.due(name + " into row " + i, Check.call(h, name, given(told, at, to)), due.get(0));
                Check.due(name + " told last", Check.text(h, to[writes - 1]), due.get(writes));
                if (to[0] != to[writes - 1]) {
                    Check.due(name + " told first", Check.text(h, to[0]), due.get(1));
                }
                for (int k = 0; k < told.length; k++) {
                    if (at[k] >= 0 && at[k] != to[0] && at[k] != to[writes - 1]) {
                        Check.due(name + " left row " + k, Check.text(h, at[k]), Check.hex(bytes(told[k])));
                    }
                }
            }
        }
    }

    /** Two rows that hold the same may be one row, which may be written, too. */
    private static void twice(String name, Object[] told, int writes, List<String> due) {
        for (int i = 0; i < told.length; i++) {
            for (int k = i + 1; k < told.length; k++) {
                if (!isRow(told[i]) || !isRow(told[k]) || bytes(told[i]).length != bytes(told[k]).length) {
                    continue;
                }
                Object[] same = told.clone();
                same[k] = told[i];
                CryptHouse h = new CryptHouse();
                String want = Check.call(h, name, given(same, put(h, same, 1, 1), to(writes, 19, 20)));
                List<String> wrote = new ArrayList<>();
                for (int row : to(writes, 19, 20)) {
                    wrote.add(Check.text(h, row));
                }
                h = new CryptHouse();
                int[] at = put(h, same, 1, 1);
                at[k] = at[i];
                int[] to = writes == 2 ? to(2, at[i], 20) : to(writes, at[i], 20);
                boolean refused = want.startsWith("-");
                Check.due(name + " of one row twice", Check.call(h, name, given(same, at, to)), want);
                for (int n = 0; n < writes && !refused; n++) {
                    Check.due(name + " of one row twice", Check.text(h, to[n]), wrote.get(n));
                }
            }
        }
        Check.due(name, due.size(), writes + 1);
    }

    /** "IllegalArgumentException for a row .. that there is none of, ahead of all." */
    private static void none(String name, Object[] told, int writes) {
        Twin t = new Twin().told("a row that there is none of");
        int[] at = put(t.seen, told, 1, 1);
        put(t.spared, told, 1, 1);
        t.both("feed", 5, 1L, 2L, 3L);
        Object[] good = given(told, at, to(writes, 19, 20));
        for (int i = 0; i < good.length; i++) {
            if (i < told.length && at[i] < 0) {
                continue;
            }
            for (int row : NONE) {
                Object[] bad = good.clone();
                bad[i] = row;
                t.thrown(name, bad);
            }
        }
        t.end();
    }
}
