import java.lang.reflect.InvocationTargetException;
import java.lang.reflect.Method;
import java.util.Arrays;
import java.util.HashMap;
import java.util.Map;

/** Calls by their names, so that the class and the model are asked in the same way. */
final class Answers {
    private static final Map<Class<?>, Map<String, Method>> METHODS = new HashMap<>();

    private Answers() {
    }

    static String call(Object x, String name, int... arguments) {
        Object[] boxed = Arrays.stream(arguments).boxed().toArray();
        try {
            return String.valueOf(method(x.getClass(), name).invoke(x, boxed));
        } catch (InvocationTargetException e) {
            boolean own = isThrownBy(e.getCause(), x.getClass());
            return (own ? "throws." : "the machine throws.") + e.getCause().getClass().getName();
        } catch (IllegalAccessException e) {
            throw new AssertionError(e);
        }
    }

    /** Whether code of this class threw it, and not the library or the machine below that code. */
    static boolean isThrownBy(Throwable thrown, Class<?> type) {
        StackTraceElement[] trace = thrown.getStackTrace();
        return trace.length > 0 && trace[0].getClassName().equals(type.getName())
                && (thrown.getClass() == IndexOutOfBoundsException.class
                || thrown.getClass() == IllegalArgumentException.class
                || thrown.getClass() == IllegalStateException.class);
    }

    private static Method method(Class<?> type, String name) {
        return METHODS.computeIfAbsent(type, Answers::methodsOf).get(name);
    }

    private static Map<String, Method> methodsOf(Class<?> type) {
        Map<String, Method> methods = new HashMap<>();
        for (Method method : type.getDeclaredMethods()) {
            method.setAccessible(true);
            methods.put(method.getName(), method);
        }
        return methods;
    }

    /** Everything that one can ask without changing anything. */
    static String all(Object x) {
        StringBuilder text = new StringBuilder();
        int clients = tell(text, x, "clients");
        int layers = tell(text, x, "layers");
        int version = tell(text, x, "version");
        for (int layer = 0; layer < layers; layer++) {
            tell(text, x, "layerAt", layer);
            for (int client = 0; client < clients; client++) {
                tell(text, x, "applies", layer, client);
            }
            for (int setting = 0; setting < 16; setting++) {
                tellCell(text, x, layer, setting);
            }
        }
        for (int client = 0; client < clients; client++) {
            tellClient(text, x, client, clients, version);
        }
        return text.toString();
    }

    private static void tellCell(StringBuilder text, Object x, int layer, int setting) {
        tell(text, x, "has", layer, setting);
        tell(text, x, "shareOf", layer, setting);
        tell(text, x, "changedAt", layer, setting);
        for (int owner = 1; owner <= 9; owner++) {
            tell(text, x, "isLocked", layer, setting, owner);
        }
    }

    private static void tellClient(StringBuilder text, Object x, int client, int clients, int version) {
        tell(text, x, "found", client);
        for (int other = 0; other < clients; other++) {
            tell(text, x, "differ", client, other);
        }
        for (int setting = 0; setting < 16; setting++) {
            tellQuestion(text, x, client, setting, version);
        }
    }

    private static void tellQuestion(StringBuilder text, Object x, int client, int setting, int version) {
        for (String name : new String[] {"value", "status", "culprit", "layerOf", "isNew", "uses"}) {
            tell(text, x, name, client, setting);
        }
        // the newest versions and some old ones: all of them would take long
        for (int k = 0; k <= version; k += k < version - 4 ? 1 + version / 8 : 1) {
            tell(text, x, "statusAt", k, client, setting);
            tell(text, x, "valueAt", k, client, setting);
        }
    }

    /** All of this, and what only changes bring to light; x is used up by it. */
    static String everything(Object x) {
        StringBuilder text = new StringBuilder(all(x));
        int layers = tell(text, x, "layers");
        for (int layer = 0; layer < layers; layer++) {
            for (int setting = -1; setting < 16; setting++) {
                for (int owner = 1; owner <= 9; owner++) {
                    tell(text, x, "unlock", layer, setting, owner);
                }
            }
            tell(text, x, "rank", layer, 0);
        }
        for (int client = 0; client < 12; client++) {
            tell(text, x, "client", 0, 0);
        }
        tellEntries(text, x, layers);
        for (int layer = 0; layer < layers; layer++) {
            for (int setting = 0; setting < 16; setting++) {
                tell(text, x, "advance", layer, setting, 100, 1);
            }
        }
        tellEntries(text, x, layers);
        return text.toString();
    }

    /** Puts each layer first in turn, and moves a client so that the layer applies to it. */
    private static void tellEntries(StringBuilder text, Object x, int layers) {
        int version = tell(text, x, "version");
        for (int layer = 0; layer < layers; layer++) {
            call(x, "rank", layer, 99);
            int client = clientOf(x, layer);
            for (int setting = 0; setting < 16; setting++) {
                tellQuestion(text, x, client, setting, version);
            }
            call(x, "rank", layer, 0);
        }
    }

    private static int clientOf(Object x, int layer) {
        for (int client = 0; client < 12; client++) {
            for (int area = 0; area < 8; area++) {
                call(x, "move", client, area, area);
                if (call(x, "applies", layer, client).equals("true")) {
                    return client;
                }
            }
        }
        throw new AssertionError("layer " + layer + " applies to no client");
    }

    private static int tell(StringBuilder text, Object x, String name, int... arguments) {
        String answer = call(x, name, arguments);
        text.append(name).append(Arrays.toString(arguments)).append('=').append(answer).append('\n');
        return answer.matches("-?\\d{1,6}") ? Integer.parseInt(answer) : 0;
    }
}
