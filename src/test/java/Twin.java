import java.util.ArrayList;
import java.util.Arrays;
import java.util.List;

/**
 * Two objects that are treated alike, but for the calls that must change nothing: the second one is spared these. What
 * can be looked at is compared behind each of them, and at last all that an object holds.
 */
final class Twin {
    private static final String MARK = "5e5e5e";
    final CryptHouse seen = new CryptHouse();
    final CryptHouse spared = new CryptHouse();
    private String words = "";

    /** A hash is under way, the log has leaves, the box has keys. */
    Twin() {
        both("begin", 2, 0);
        both("fill", 70, 9, 0);
        both("more", 0);
        for (int i = 0; i < 3; i++) {
            both("fill", i, 7, 0);
            both("leaf", 0);
        }
        both("fill", 32, 3, 0);
        both("put", 2, 0, 63, 1000, 4, 2);
        both("approve", 2, 6);
        both("put", 15, 0, 20, 7, 0, 0);
        both("fill", 0, 0, 0);
    }

    /** The words of the document that the calls behind this one are about. */
    Twin told(String sentence) {
        words = sentence;
        return this;
    }

    private String what(String name, Object... args) {
        String given = Arrays.deepToString(args);
        return "\"" + words + "\": " + name + (given.length() > 400 ? given.substring(0, 400) + ".." : given);
    }

    /** A call that is done with both. */
    String both(String name, Object... args) {
        String answer = Check.call(seen, name, args);
        Check.due(what(name, args) + " of the twin", Check.call(spared, name, args), answer);
        return answer;
    }

    private Object[] placed(String name, Object... args) {
        List<Object> given = new ArrayList<>();
        int next = 0;
        for (Object arg : args) {
            if (arg instanceof byte[] || arg instanceof String) {
                byte[] b = arg instanceof byte[] told ? told : Check.bytes((String) arg);
                Check.row(seen, next, b);
                Check.row(spared, next, b);
                given.add(next);
                next++;
            } else {
                given.add(arg);
            }
        }
        int missing = Check.method(name).getParameterCount() - given.size();
        for (int i = missing; i > 0; i--) {
            Check.row(seen, Check.TO - i + 1, MARK);
            Check.row(spared, Check.TO - i + 1, MARK);
            given.add(Check.TO - i + 1);
        }
        return given.toArray();
    }

    /** A call that writes: it answers the size of what is due. */
    void gives(String want, String name, Object... args) {
        Check.due(what(name, args), both(name, placed(name, args)), String.valueOf(want.length() / 2));
        Check.due(what(name, args) + " wrote", Check.text(seen, Check.TO), want);
    }

    /** A call that writes so many bytes: what they are. */
    String made(int size, String name, Object... args) {
        Check.due(what(name, args), both(name, placed(name, args)), String.valueOf(size));
        String text = Check.text(seen, Check.TO);
        Check.due(what(name, args) + " wrote", text.length() / 2, size);
        Check.due(what(name, args) + " of the twin", Check.text(spared, Check.TO), text);
        return text;
    }

    /** A call that changes something else than a row. */
    void answers(int want, String name, Object... args) {
        Check.due(what(name, args), both(name, placed(name, args)), String.valueOf(want));
    }

    /** A call that must change nothing: a refusal, or a check. */
    void leaves(int want, String name, Object... args) {
        leaves(String.valueOf(want), name, args);
    }

    /** A call that throws ahead of all, and changes nothing. */
    void thrown(String name, Object... args) {
        leaves("throws.IllegalArgumentException", name, args);
    }

    void leaves(String want, String name, Object... args) {
        Object[] given = placed(name, args);
        Check.due(what(name, args), Check.call(seen, name, given), want);
        Check.due(what(name, args) + " changes something", differs(), "");
    }

    /** What differs between the two that can be looked at without a change. */
    String differs() {
        for (int row = 0; row < 24; row++) {
            int n = spared.size(row);
            if (seen.size(row) != n) {
                return "the size of row " + row;
            }
            for (int k = 0; k < n; k += 8) {
                if (seen.octets(row, k) != spared.octets(row, k)) {
                    return "byte " + k + " of row " + row;
                }
            }
        }
        for (int what = 0; what < 4; what++) {
            if (seen.count(what) != spared.count(what)) {
                return "count " + what;
            }
        }
        for (int i = 0; i < 96; i++) {
            if (seen.look(i / 6, i % 6) != spared.look(i / 6, i % 6)) {
                return "what " + i % 6 + " of place " + i / 6;
            }
        }
        return "";
    }

    /** All that the two hold: the rows, the tape, the hash under way, the log, the box and its trail. */
    void end() {
        told("nothing has changed");
        Check.due("the two", differs(), "");
        String[] names = {"trail", "keep", "done"};
        for (String name : names) {
            both(name, 0);
            Check.due("the " + name, Check.text(seen, 0), Check.text(spared, 0));
        }
        for (int n = 0; n <= spared.count(2); n += n < 40 ? 1 : 123) {
            both("head", n, 0);
            Check.due("head " + n, Check.text(seen, 0), Check.text(spared, 0));
        }
        both("fill", 5, 5, 1);
        for (int place = 0; place < 16; place++) {
            int owner = Math.max(0, spared.look(place, 3));
            for (int role = 0; role < 8; role++) {
                both("approve", place, role);
            }
            for (int what = 0; what < 5; what++) {
                both("act", what, owner, place, 15, 1, 0);
                Check.due("act " + what + " at " + place, Check.text(seen, 0), Check.text(spared, 0));
            }
        }
        Check.due("the two", differs(), "");
    }
}
