import java.util.Arrays;

/**
 * Every call with every mix of the least and the greatest argument that is allowed and the ones beyond them,
 * where all clients and layers are there, on the class and on the model.
 */
final class RangesTest {
    private static final String[] CALLS = {
        "client area area", "move client area area", "layer precedence selector which", "rank layer precedence",
        "layerAt layer", "applies layer client", "set layer setting number owner",
        "template layer setting number setting second owner", "remove layer setting owner", "has layer setting",
        "roll layer setting number owner", "rollTemplate layer setting number setting second owner",
        "advance layer setting share owner", "abort layer setting owner", "shareOf layer setting",
        "lock layer second owner", "unlock layer second owner", "isLocked layer setting owner",
        "changedAt layer setting", "rollback version owner", "value client setting", "status client setting",
        "culprit client setting", "layerOf client setting", "isNew client setting", "uses client setting",
        "found client", "differ client client", "statusAt version client setting", "valueAt version client setting"
    };
    /** With the calls that fill an object these are less than the 512 of which the document speaks. */
    private static final int MOST_CALLS = 400;

    private final boolean isLayerLocked;
    private ConfigBeacon x;
    private Model model;
    private int calls;

    private RangesTest(boolean isLayerLocked) {
        this.isLayerLocked = isLayerLocked;
        fill();
    }

    /** Of the four cells at the edges one has an entry alone; there are locks and a rollout for the others. */
    private void fill() {
        x = new ConfigBeacon();
        model = new Model();
        calls = 0;
        for (int k = 0; k < 12; k++) {
            call("client", k % 8, 7 - k % 8);
        }
        for (int k = 0; k < 8; k++) {
            call("layer", k * 13 % 9, k % 4, k % 4 == 3 ? k + 4 : 0);
        }
        for (int layer = 0; layer < 8; layer += 7) {
            call("template", layer, 0, 5, 15, -1, 1);
            call("set", layer, 15, 6, 1);
        }
        call("roll", 7, 0, 7, 1);
        call("advance", 7, 0, 99, 1);
        call("lock", 0, isLayerLocked ? -1 : 15, 1);
        call("lock", 7, 15, 9);
    }

    private static int[] edges(String kind, int version) {
        switch (kind) {
            case "area": return new int[] {-1, 0, 7, 8};
            case "client": return new int[] {-1, 0, 11, 12};
            case "layer": return new int[] {-1, 0, 7, 8};
            case "precedence": return new int[] {-1, 0, 99, 100};
            case "selector": return new int[] {-1, 0, 1, 2, 3, 4};
            case "which": return new int[] {-1, 0, 1, 7, 8, 11, 12};
            case "setting": return new int[] {-1, 0, 15, 16};
            case "second": return new int[] {-2, -1, 0, 15, 16};
            case "number": return new int[] {-10000, -9999, 9999, 10000};
            case "owner": return new int[] {0, 1, 9, 10};
            case "share": return new int[] {0, 1, 99, 100, 101};
            default: return new int[] {-1, 0, version, version + 1};
        }
    }

    private void callWithEdges(String[] kinds, int[] arguments, int at) {
        if (at == arguments.length) {
            call(kinds[0], arguments);
            return;
        }
        for (int edge : edges(kinds[at + 1], model.version())) {
            arguments[at] = edge;
            callWithEdges(kinds, arguments, at + 1);
        }
    }

    private void call(String name, int... arguments) {
        if (calls == MOST_CALLS) {
            compareAndFill();
        }
        calls++;
        Check.due(name + Arrays.toString(arguments), Answers.call(x, name, arguments),
                Answers.call(model, name, arguments));
    }

    private void compareAndFill() {
        Check.due("everything is the same as in the model",
                Answers.everything(x).equals(Answers.everything(model)), true);
        fill();
    }

    public static void main(String[] args) {
        for (boolean isLayerLocked : new boolean[] {false, true}) {
            for (String call : CALLS) {
                String[] kinds = call.split(" ");
                RangesTest test = new RangesTest(isLayerLocked);
                test.callWithEdges(kinds, new int[kinds.length - 1], 0);
                test.compareAndFill();
            }
        }
        Check.end("RangesTest");
    }
}
