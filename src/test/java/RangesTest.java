import java.util.Arrays;

/** Every mix of edge arguments where all clients and layers are there, on the class and on the model. */
final class RangesTest {
    /** With the calls that fill an object these are less than the 512 of which the document speaks. */
    private static final int MOST_CALLS = 400;

    private final boolean isLayerLocked;
    private ConfigBeacon x;
    private Model model;
    private int calls;

    private RangesTest(boolean isLayerLocked) {
        this.isLayerLocked = isLayerLocked;
        fill();
    }

    /** Of the four cells at the edges one has an entry alone; there are locks and a rollout for the others. */
    private void fill() {
        x = new ConfigBeacon();
        model = new Model();
        calls = 0;
        for (int k = 0; k < 12; k++) {
            call("client", k % 8, 7 - k % 8);
        }
        for (int k = 0; k < 8; k++) {
            call("layer", k * 13 % 9, k % 4, k % 4 == 3 ? k + 4 : 0);
        }
        for (int layer = 0; layer < 8; layer += 7) {
            call("template", layer, 0, 5, 15, -1, 1);
            call("set", layer, 15, 6, 1);
        }
        call("roll", 7, 0, 7, 1);
        call("advance", 7, 0, 99, 1);
        call("lock", 0, isLayerLocked ? -1 : 15, 1);
        call("lock", 7, 15, 9);
    }

    private void call(String name, int... arguments) {
        if (calls == MOST_CALLS) {
            compareAndFill();
        }
        calls++;
        Check.due(name + Arrays.toString(arguments), Answers.call(x, name, arguments),
                Answers.call(model, name, arguments));
    }

    private void compareAndFill() {
        Check.due("everything is the same as in the model",
                Answers.everything(x).equals(Answers.everything(model)), true);
        fill();
    }

    public static void main(String[] args) {
        for (boolean isLayerLocked : new boolean[] {false, true}) {
            for (String call : Mixes.CALLS) {
                RangesTest test = new RangesTest(isLayerLocked);
                new Mixes(() -> test.model.version(), test::call).callAll(call);
                test.compareAndFill();
            }
        }
        Check.end("RangesTest");
    }
}
