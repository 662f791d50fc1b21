import java.lang.reflect.InvocationTargetException;
import java.lang.reflect.Method;
import java.lang.reflect.Modifier;
import java.util.Map;
import java.util.TreeMap;

// What the boundary tests share: each static method of theirs whose name begins with "promise" is a test of its own.
public abstract class Boundaries {
    static final int NO_ROOM = -2000000001;
    static final int NO_KEY = -2000000002;
    static final int DOWN = -2000000003;
    static final int FULL = 15;

    private static String running = "";
    private static int wrong = 0;
    private static int checked = 0;

    static void due(String what, long got, long want) {
        checked++;
        if (got != want) {
            wrong++;
            System.out.println(running + ": " + what + " answered " + got + ", due is " + want);
        }
    }

    static void due(String what, boolean got, boolean want) {
        due(what, got ? 1 : 0, want ? 1 : 0);
    }

    static void due(String what, String got, String want) {
        checked++;
        if (!got.equals(want)) {
            wrong++;
            System.out.println(running + ": " + what + " shows " + got + ", due is " + want);
        }
    }

    static void runEach(Class<?> tests) {
        Map<String, Method> named = new TreeMap<>();
        for (Method method : tests.getDeclaredMethods()) {
            if (method.getName().startsWith("promise") && Modifier.isStatic(method.getModifiers())) {
                named.put(method.getName(), method);
            }
        }
        for (Method method : named.values()) {
            run(method);
        }
        System.out.println(named.size() + " boundary cases, " + checked + " answers looked at, " + wrong + " wrong");
        if (wrong != 0 || named.isEmpty()) {
            System.exit(1);
        }
    }

    private static void run(Method method) {
        running = method.getName();
        int before = checked;
        try {
            method.invoke(null);
        } catch (InvocationTargetException thrown) {
            wrong++;
            System.out.println(running + ": threw " + thrown.getCause());
        } catch (IllegalAccessException hidden) {
            wrong++;
            System.out.println(running + ": can't be called");
        }
        if (checked == before) {
            wrong++;
            System.out.println(running + ": looked at nothing");
        }
    }

    // The key whose mixing is this, so that a test can say by its bits which bucket it comes to.
    static int keyOf(int mixing) {
        int product = mixing ^ (mixing >>> 15) ^ (mixing >>> 30);
        int inverse = 1;
        for (int i = 0; i < 5; i++) {
            inverse *= 2 - 0x9E3779B1 * inverse;
        }
        return product * inverse;
    }

    // Keys that no directory parts: their mixings have these lowest bits and differ from bit 12 up alone.
    static int alike(int lowest, int i) {
        return keyOf(lowest ^ i << 12);
    }

    static void putAlike(ExtendStore x, int lowest, int from, int to) {
        for (int i = from; i < to; i++) {
            due("put of alike key " + i + " of " + lowest, x.put(alike(lowest, i), 100 + i), 0);
        }
    }

    static void removeAlike(ExtendStore x, int lowest, int from, int to) {
        for (int i = from; i < to; i++) {
            due("remove of alike key " + i + " of " + lowest, x.remove(alike(lowest, i)), 0);
        }
    }

    // One bucket with fifteen keys, all of lowest bits 0.
    static ExtendStore full(int blocks, int mostDepth) {
        ExtendStore x = new ExtendStore(blocks, mostDepth);
        putAlike(x, 0, 0, FULL);
        return x;
    }

    // Fifteen keys at entry 0 and one that parts from them in this bit: depth bit + 1, bit + 2 buckets.
    static ExtendStore parted(int blocks, int mostDepth, int bit) {
        ExtendStore x = full(blocks, mostDepth);
        due("put of a key that parts in bit " + bit, x.put(keyOf(1 << bit), 1), 0);
        return x;
    }

    // Synced with 1 -> 10, then 1 -> 11 was lost with the sync's first write.
    static ExtendStore downStore() {
        ExtendStore x = new ExtendStore(20, 4);
        due("put before the crash", x.put(1, 10), 0);
        due("sync before the crash", x.sync(), 0);
        due("put that will be lost", x.put(1, 11), 0);
        x.crashAfter(1);
        due("sync that crashes", x.sync(), DOWN);
        return x;
    }

    // All that can be asked, for these keys: what changes nothing leaves this as it was.
    static String seen(ExtendStore x, int... keys) {
        StringBuilder text = new StringBuilder();
        text.append("size ").append(x.size()).append(" depth ").append(x.depth());
        text.append(" buckets ").append(x.buckets()).append(" writes ").append(x.writes());
        text.append(" free ").append(x.free());
        for (int k : keys) {
            text.append("; ").append(k).append(' ').append(x.has(k)).append(' ').append(x.get(k));
            for (int what = 0; what < 3; what++) {
                text.append(' ').append(x.bucket(k, what));
            }
        }
        return text.toString();
    }

    static void shape(ExtendStore x, int depth, int buckets, int size) {
        due("depth", x.depth(), depth);
        due("buckets", x.buckets(), buckets);
        due("size", x.size(), size);
    }
}
