import java.util.Arrays;

/**
 * A call that throws changes nothing: every mix of edge arguments that is refused, where there is something of
 * everything that a call could change. The model tells what is refused, and how.
 */
final class RefusalsTest {
    /** With the calls that fill an object these are less than the 512 of which the document speaks. */
    private static final int MOST_CALLS = 300;

    /** Who has locks: nobody, one that makes no call here, or two that make some, each of one sort. */
    private enum Locks { NONE, SETTINGS, LAYERS, OWN }

    private final boolean withEntries;
    private final boolean withRollouts;
    private final Locks locks;
    private final String everything;
    private Model model;
    private ConfigBeacon x;
    private String firstCall = "";
    private int calls = 0;

    private RefusalsTest(boolean withEntries, boolean withRollouts, Locks locks) {
        this.withEntries = withEntries;
        this.withRollouts = withRollouts;
        this.locks = locks;
        everything = Answers.everything(filled(new ConfigBeacon()));
        model = filled(new Model());
        x = filled(new ConfigBeacon());
    }

    /** The calls at the edges go to the layers 0 and 7, so these two have something for every setting. */
    private <T> T filled(T x) {
        for (int k = 0; k < 12; k++) {
            make(x, "client", k % 8, 7 - k % 8);
        }
        int[][] selected = {{0, 0}, {1, 0}, {1, 7}, {2, 0}, {2, 7}, {3, 0}, {3, 11}, {0, 0}};
        for (int k = 0; k < 8; k++) {
            make(x, "layer", 50 + k % 3, selected[k][0], selected[k][1]);
        }
        for (int setting = 0; setting < 16; setting++) {
            fillCell(x, 0, setting);
            fillCell(x, 7, setting);
        }
        if (locks == Locks.LAYERS || locks == Locks.OWN) {
            make(x, "lock", 0, -1, locks == Locks.OWN ? 1 : 5);
        }
        if (locks == Locks.LAYERS) {
            make(x, "lock", 7, -1, 5);
        }
        return x;
    }

    private void fillCell(Object x, int layer, int setting) {
        if (setting % 3 == 1) {
            make(x, "template", layer, setting, 100 + layer, setting - 1, setting < 12 ? -1 : 0, 5);
        } else {
            make(x, "set", layer, setting, 10 * setting + layer, 5);
        }
        if (!withEntries) {
            make(x, "remove", layer, setting, 5);
        }
        if (withRollouts) {
            make(x, "roll", layer, setting, 1000 + setting, 5);
            make(x, "advance", layer, setting, 50, 5);
        }
        if (locks == Locks.SETTINGS || locks == Locks.OWN && layer == 7) {
            make(x, "lock", layer, setting, locks == Locks.OWN ? 9 : 5);
        }
    }

    private static void make(Object x, String name, int... arguments) {
        String answer = Answers.call(x, name, arguments);
        Check.due(name + Arrays.toString(arguments) + " throws", answer.contains("throws"), false);
    }

    private void call(String name, int... arguments) {
        String want = Answers.call(model, name, arguments);
        if (!want.startsWith("throws.")) {
            model = filled(new Model());
            return;
        }
        String told = this + ": " + name + Arrays.toString(arguments);
        firstCall = calls == 0 ? told : firstCall;
        Check.due(told, Answers.call(x, name, arguments), want);
        calls++;
        if (calls == MOST_CALLS) {
            compare(told);
        }
    }

    private void compare(String lastCall) {
        if (!everything.equals(Answers.everything(x))) {
            Check.due("the calls that are refused from " + firstCall + " to " + lastCall + " change", "something", "nothing");
        }
        x = filled(new ConfigBeacon());
        calls = 0;
    }

    @Override
    public String toString() {
        return (withEntries ? "entries" : "no entries") + (withRollouts ? ", rollouts" : "") + ", locks: " + locks;
    }

    public static void main(String[] args) {
        for (int k = 0; k < 4; k++) {
            for (Locks locks : Locks.values()) {
                RefusalsTest test = new RefusalsTest(k % 2 == 0, k < 2, locks);
                Mixes mixes = new Mixes(() -> test.model.version(), test::call);
                for (String call : Mixes.CALLS) {
                    mixes.callAll(call);
                }
                test.compare("the last one");
            }
        }
        Check.end("RefusalsTest");
    }
}
