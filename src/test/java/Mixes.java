import java.util.function.IntSupplier;

/** The calls that have arguments, with every mix of the last arguments that are allowed and the first that are not. */
final class Mixes {
    static final String[] CALLS = {
        "client area area", "move client area area", "layer precedence selector which", "rank layer precedence",
        "layerAt layer", "applies layer client", "set layer setting number owner",
        "template layer setting number setting second owner", "remove layer setting owner", "has layer setting",
        "roll layer setting number owner", "rollTemplate layer setting number setting second owner",
        "advance layer setting share owner", "abort layer setting owner", "shareOf layer setting",
        "lock layer second owner", "unlock layer second owner", "isLocked layer setting owner",
        "changedAt layer setting", "rollback version owner", "value client setting", "status client setting",
        "culprit client setting", "layerOf client setting", "isNew client setting", "uses client setting",
        "found client", "differ client client", "statusAt version client setting", "valueAt version client setting"
    };

    private final IntSupplier version;
    private final Caller caller;

    interface Caller {
        void call(String name, int... arguments);
    }

    /** The ranges are those of an object with all clients, all layers and the version that is supplied. */
    Mixes(IntSupplier version, Caller caller) {
        this.version = version;
        this.caller = caller;
    }

    void callAll(String call) {
        String[] kinds = call.split(" ");
        callAll(kinds, new int[kinds.length - 1], 0);
    }

    private void callAll(String[] kinds, int[] arguments, int at) {
        if (at == arguments.length) {
            caller.call(kinds[0], arguments);
            return;
        }
        for (int edge : edges(kinds[at + 1])) {
            arguments[at] = edge;
            callAll(kinds, arguments, at + 1);
        }
    }

    private int[] edges(String kind) {
        switch (kind) {
            case "area": return new int[] {-1, 0, 7, 8};
            case "client": return new int[] {-1, 0, 11, 12};
            case "layer": return new int[] {-1, 0, 7, 8};
            case "precedence": return new int[] {-1, 0, 99, 100};
            case "selector": return new int[] {-1, 0, 1, 2, 3, 4};
            case "which": return new int[] {-1, 0, 1, 7, 8, 11, 12};
            case "setting": return new int[] {-1, 0, 15, 16};
            case "second": return new int[] {-2, -1, 0, 15, 16};
            case "number": return new int[] {-10000, -9999, 9999, 10000};
            case "owner": return new int[] {0, 1, 9, 10};
            case "share": return new int[] {0, 1, 99, 100, 101};
            default: return new int[] {-1, 0, version.getAsInt(), version.getAsInt() + 1};
        }
    }
}
