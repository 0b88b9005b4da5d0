import java.lang.management.ManagementFactory;
import java.lang.reflect.Array;
import java.lang.reflect.Field;
import java.lang.reflect.Modifier;
import java.util.ArrayDeque;
import java.util.IdentityHashMap;
import java.util.Map;

/** All calls of a run live in one room: an object holds little, and its calls make nothing. */
public final class RoomTest {
    private static final com.sun.management.ThreadMXBean THREADS =
        (com.sun.management.ThreadMXBean) ManagementFactory.getThreadMXBean();
    private static final CryptHouse H = new CryptHouse();
    private static long before;

    public static void main(String[] args) throws Exception {
        held();
        prepare();
        for (int round = 0; round < 2; round++) {
            symmetric();
            numbers();
            curves();
            lattices();
            logAndBox();
        }
        Check.end();
    }

    private static void held() throws IllegalAccessException {
        Map<Object, Boolean> seen = new IdentityHashMap<>();
        ArrayDeque<Object> open = new ArrayDeque<>();
        open.add(new CryptHouse());
        long cells = 0;
        while (!open.isEmpty()) {
            Object o = open.remove();
            if (seen.put(o, true) != null) {
                continue;
            }
            if (o.getClass().isArray()) {
                cells += Array.getLength(o);
                for (int i = 0; i < Array.getLength(o) && !o.getClass().getComponentType().isPrimitive(); i++) {
                    if (Array.get(o, i) != null) {
                        open.add(Array.get(o, i));
                    }
                }
                continue;
            }
            for (Field f : o.getClass().getDeclaredFields()) {
                f.setAccessible(true);
                boolean isStatic = Modifier.isStatic(f.getModifiers());
                cells += isStatic ? 0 : 1;
                if (!f.getType().isPrimitive() && f.getType() != String.class && f.get(o) != null) {
                    open.add(f.get(o));
                }
            }
        }
        System.out.println("an object: " + seen.size() + " objects and arrays, " + cells + " fields and elements");
        Check.due("few objects", seen.size() < 1000, true);
        Check.due("few elements", cells < 450000, true);
    }

    private static void start() {
        before = THREADS.getThreadAllocatedBytes(Thread.currentThread().getId());
    }

    private static void made(String what, int answer) {
        long bytes = THREADS.getThreadAllocatedBytes(Thread.currentThread().getId()) - before;
        Check.due(what + " is done", answer >= 0, true);
        Check.due(what + " makes nothing (" + bytes + ")", bytes < 2000, true);
        start();
    }

    private static void prepare() {
        H.fill(32, 5, 0);
        H.fill(16, 6, 1);
        H.fill(12, 7, 2);
        H.fill(100, 8, 3);
        H.fill(64, 9, 4);
        H.fill(0, 0, 5);
        H.fill(128, 255, 6);
        H.fill(20, 3, 7);
        H.fill(1, 2, 8);
        start();
        made("warm", H.look(0, 0) + 4);
    }

    private static void symmetric() {
        start();
        for (int h = 0; h < 14; h++) {
            made("hash", H.hash(h, 20, 3, 20));
        }
        for (int kind = 0; kind < 16; kind++) {
            made("sum", H.sum(kind, 20, 0, 3, 20));
        }
        made("derive", H.derive(2, 0, 1, 2, 200, 20));
        made("stretch", H.stretch(0, 0, 1, 100, 200, 20));
        made("scrypt", H.scrypt(0, 1, 64, 4, 4, 200, 20));
        for (int mode = 2; mode < 5; mode++) {
            made("crypt", H.crypt(0, mode, false, 0, 1, 3, 20));
        }
        made("crypt", H.crypt(2, 0, false, 1, 5, 4, 20));
        for (int kind = 0; kind < 5; kind++) {
            made("seal", H.seal(kind, 0, 2, 3, 3, 20));
            made("open", H.open(kind, 0, 2, 3, 20, 21));
        }
        made("stream", H.stream(0, 2, 9, 3, 20));
        made("wrap", H.wrap(true, false, 0, 3, 20));
        made("format", H.format(10, false, 0, 2, 7, 20));
    }

    private static void numbers() {
        start();
        for (int op = 0; op < 11; op++) {
            made("work", op == 9 ? H.work(op, 8, 3, 6, 20) : H.work(op, 6, 3, 6, 20));
        }
        made("prime", H.prime(6, 20));
        made("witness", H.witness(6, 3, 1));
        made("delay", H.delay(3, 6, 100, 20));
        made("checkDelay", H.checkDelay(3, 6, 100, 20));
        made("rsa", H.rsa(6, 2, 6, 3, 3, 5, 20));
    }

    private static void curves() {
        start();
        made("key", H.key(0, 0, 20));
        made("sign", H.sign(0, 2, 0, 3, 5, 21));
        made("verify", H.verify(0, 2, 20, 3, 21));
        made("point", H.point(0, 2, 20, 20, 22));
        made("agree", H.agree(0, 0, 20, 22));
        made("proveSame", H.proveSame(0, 20, 0, 21));
        made("commit", H.commit(0, 0, 21));
        made("pledge", H.pledge(0, 0, 21));
        made("fits", H.fits(1, 0, 21));
        made("sign", H.sign(3, 2, 0, 3, 5, 21));
        made("sign", H.sign(4, 2, 0, 3, 0, 21));
        made("key", H.key(5, 0, 20));
        made("hybridSeal", H.hybridSeal(1, 20, 0, 3, 3, 3, 21));
        made("hybridOpen", H.hybridOpen(1, 0, 3, 3, 21, 22));
        made("jointNonces", H.jointNonces(0, 4, 20));
        H.cut(20, 64, 64, 21);
        H.fill(1, 1, 22);
        H.join(22, 21, 21);
        H.key(3, 0, 22);
        start();
        made("jointShare", H.jointShare(1, 0, 20, 22, 21, 3, 19));
        made("jointSign", H.jointSign(21, 19, 22, 3, 20));
    }

    private static void lattices() {
        start();
        made("capsuleKeys", H.capsuleKeys(2, 4, 20, 21));
        made("capsule", H.capsule(2, 20, 0, 19, 18));
        made("uncapsule", H.uncapsule(2, 21, 19, 18));
        made("latticeKeys", H.latticeKeys(2, 0, 20, 21));
        made("latticeSign", H.latticeSign(2, 21, 3, 2, 0, 19));
        made("latticeVerify", H.latticeVerify(2, 20, 3, 2, 19));
    }

    private static void logAndBox() {
        start();
        for (int i = 0; i < 20; i++) {
            made("leaf", H.leaf(3));
        }
        made("head", H.head(19, 20));
        made("path", H.path(4, 19, 20));
        made("growth", H.growth(7, 19, 20));
        int place = H.count(3);
        made("put", H.put(place, 0, 63, 9, 1, 0));
        for (int what = 0; what < 5; what++) {
            made("act", H.act(what, 1, place, place, what == 1 ? 21 : 3, 21));
        }
    }
}
