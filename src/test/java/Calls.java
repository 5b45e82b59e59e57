import java.lang.reflect.InvocationTargetException;
import java.lang.reflect.Method;
import java.util.HashMap;
import java.util.Map;

/** Calls a keeper by the names of its calls; a boolean counts 1 or 0. */
final class Calls {
    private static final Map<String, Method> METHODS = new HashMap<>();

    static {
        for (Method m : SameKeeper.class.getDeclaredMethods()) {
            if (java.lang.reflect.Modifier.isPublic(m.getModifiers())) {
                METHODS.put(m.getName(), m);
            }
        }
    }

    private Calls() {
    }

    static int parametersOf(String name) {
        return METHODS.get(name).getParameterCount();
    }

    static long call(SameKeeper keeper, String name, int... a) {
        Object[] arguments = new Object[a.length];
        for (int i = 0; i < a.length; i++) {
            arguments[i] = a[i];
        }
        try {
            Object answer = METHODS.get(name).invoke(keeper, arguments);
            return answer instanceof Boolean ? ((Boolean) answer ? 1 : 0) : ((Number) answer).longValue();
        } catch (InvocationTargetException | IllegalAccessException e) {
            throw new IllegalStateException(name, e);
        }
    }

    /** The numbers of the feeds that bring these bytes, five for each feed. */
    static int[][] feedsOf(int... bytes) {
        int feeds = (bytes.length + 19) / 20;
        int[][] all = new int[feeds][5];
        for (int i = 0; i < feeds * 20; i++) {
            int b = i < bytes.length ? bytes[i] : ' ';
            all[i / 20][i % 20 / 4] |= (b & 255) << (24 - 8 * (i % 4));
        }
        return all;
    }

    static int[] bytesOf(String text) {
        int[] bytes = new int[text.length()];
        for (int i = 0; i < bytes.length; i++) {
            bytes[i] = text.charAt(i) & 255;
        }
        return bytes;
    }

    /** The bytes, and they alone, stand on the tape. */
    static void put(SameKeeper keeper, int... bytes) {
        keeper.end(0);
        for (int[] feed : feedsOf(bytes)) {
            keeper.feed(feed[0], feed[1], feed[2], feed[3], feed[4]);
        }
        keeper.end(bytes.length);
    }

    static int lock(SameKeeper keeper, String text) {
        put(keeper, bytesOf(text));
        return keeper.lock();
    }

    static long ask(SameKeeper keeper, String text) {
        put(keeper, bytesOf(text));
        return keeper.ask();
    }

    static int hear(SameKeeper keeper, int... rows) {
        put(keeper, rows);
        return keeper.hear();
    }

    static boolean on(SameKeeper keeper, int... bytes) {
        put(keeper, bytes);
        return keeper.on();
    }

    static SameKeeper locked(String text) {
        SameKeeper keeper = new SameKeeper();
        if (lock(keeper, text) == SameKeeper.NONE) {
            throw new IllegalStateException(text + " has fault " + keeper.fault(0) + " at " + keeper.fault(1));
        }
        return keeper;
    }
}
