import java.lang.reflect.Method;
import java.lang.reflect.Modifier;
import java.util.Arrays;

/** Every call of the face with every mix of edge arguments, on the class and on the model. */
final class EdgesTest {
    private static final int[] EDGES = {Integer.MIN_VALUE, -1, 0, 1, Integer.MAX_VALUE};

    private final ConfigBeacon x = new ConfigBeacon();
    private final Model model = new Model();

    private void callAll() {
        for (Method method : ConfigBeacon.class.getDeclaredMethods()) {
            if (Modifier.isPublic(method.getModifiers())) {
                callWithEdges(method.getName(), new int[method.getParameterCount()]);
            }
        }
    }

    private void callWithEdges(String name, int[] arguments) {
        int mixes = (int) Math.pow(EDGES.length, arguments.length);
        for (int mix = 0; mix < mixes; mix++) {
            int rest = mix;
            for (int a = 0; a < arguments.length; a++) {
                arguments[a] = EDGES[rest % EDGES.length];
                rest /= EDGES.length;
            }
            call(name, arguments);
        }
    }

    private void call(String name, int... arguments) {
        Check.due(name + Arrays.toString(arguments), Answers.call(x, name, arguments),
                Answers.call(model, name, arguments));
    }

    /** Past this the limits of clients and layers are reached, and locks, rollouts and entries are there. */
    private void fill() {
        for (int k = 0; k < 12; k++) {
            call("client", k % 8, k % 3);
            call("layer", k, k % 4, k % 4 == 0 ? 0 : 1);
        }
        call("set", 0, 0, 5, 1);
        call("roll", 0, 1, 5, 1);
        call("lock", 1, -1, 2);
    }

    public static void main(String[] args) {
        EdgesTest empty = new EdgesTest();
        empty.callAll();
        EdgesTest filled = new EdgesTest();
        filled.fill();
        filled.callAll();
        Check.end("EdgesTest");
    }
}
