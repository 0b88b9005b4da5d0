import java.nio.file.Files;
import java.nio.file.Path;

/** Every call of src/test/runs.txt, promises 1 to 35: runs on new objects, whose rows and box go from call to call. */
public final class RunsTest {
    public static void main(String[] args) throws Exception {
        CryptHouse h = new CryptHouse();
        int line = 0;
        for (String s : Files.readAllLines(Path.of("src/test/runs.txt"))) {
            line++;
            String[] words = s.split(" ");
            if (s.equals("new")) {
                h = new CryptHouse();
            } else if (words[0].equals("R")) {
                Check.row(h, Integer.parseInt(words[1]), words.length > 2 ? words[2] : "");
            } else if (words[0].equals("G")) {
                holds(h, line, Integer.parseInt(words[1]), words.length > 2 ? words[2] : "");
            } else if (!s.startsWith("#")) {
                answers(h, line, words);
            }
        }
        Check.end();
    }

    private static void holds(CryptHouse h, int line, int row, String want) {
        byte[] got = Check.get(h, row);
        boolean summed = want.startsWith("#");
        Check.due("line " + line + ": row " + row, summed ? "#" + Check.hex(Check.sha256(got)) : Check.hex(got), want);
    }

    private static void answers(CryptHouse h, int line, String[] words) {
        Class<?>[] types = Check.method(words[0]).getParameterTypes();
        Object[] given = new Object[types.length];
        for (int i = 0; i < types.length; i++) {
            boolean wide = types[i] == long.class;
            given[i] = wide ? (Object) Long.valueOf(words[i + 1]) : (Object) Integer.valueOf(words[i + 1]);
        }
        String name = "line " + line + ": " + String.join(" ", words);
        Check.due(name, Check.call(h, words[0], given), words[words.length - 1]);
    }
}
