import java.nio.file.Files;
import java.nio.file.Path;
import java.util.ArrayList;
import java.util.List;

/** Every call of src/test/vectors.txt and src/test/third.txt, or of the files that are told; promises 6 to 32. */
public final class VectorsTest {
    public static void main(String[] args) throws Exception {
        String[] own = {"src/test/vectors.txt", "src/test/third.txt"};
        for (String file : args.length > 0 ? args : own) {
            all(file);
        }
        Check.end();
    }

    private static void all(String file) throws Exception {
        CryptHouse h = new CryptHouse();
        int line = 0;
        for (String s : Files.readAllLines(Path.of(file))) {
            line++;
            if (!s.startsWith("#")) {
                one(h, file + " line " + line, s.split(" "));
            }
        }
    }

    private static void one(CryptHouse h, String line, String[] words) {
        List<Object> given = new ArrayList<>();
        int at = 1;
        for (; !words[at].equals("="); at++) {
            given.add(words[at].startsWith(":") ? (Object) words[at].substring(1) : (Object) Integer.valueOf(words[at]));
        }
        int writes = Check.method(words[0]).getParameterCount() - given.size();
        byte[] mark = {9};
        for (int i = 0; i < writes; i++) {
            Check.row(h, Check.TO - i, mark);
        }
        String name = line + ": " + words[0];
        Check.due(name, Check.run(h, words[0], given.toArray()), words[at + 1]);
        for (int i = 0; i < writes; i++) {
            byte[] got = Check.get(h, Check.TO - writes + 1 + i);
            if (words.length <= at + 2 + i) {
                boolean refused = words[at + 1].startsWith("-");
                Check.due(name + " wrote", Check.hex(got), refused ? Check.hex(mark) : "");
            } else {
                String want = words[at + 2 + i];
                Check.due(name + " wrote", want.startsWith("#") ? "#" + Check.hex(Check.sha256(got)) : Check.hex(got), want);
            }
        }
    }
}
