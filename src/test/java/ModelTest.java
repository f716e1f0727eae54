import java.util.Arrays;

/** Long runs of calls, made by a fixed rule, on the class and on the model: all answers must be the same. */
final class ModelTest {
    /** Each call with the kinds of its arguments; those told twice or more are made more often. */
    private static final String[] CALLS = {
        "client area area", "client area area", "move client area area", "clients",
        "layer precedence selector which", "layer precedence selector which", "rank layer precedence",
        "layers", "layerAt layer", "applies layer client",
        "set layer setting number owner", "set layer setting number owner", "set layer setting number owner",
        "template layer setting number setting second owner",
        "template layer setting number setting second owner",
        "template layer setting number setting second owner",
        "remove layer setting owner", "has layer setting",
        "roll layer setting number owner", "rollTemplate layer setting number setting second owner",
        "advance layer setting share owner", "advance layer setting share owner",
        "advance layer setting share owner", "abort layer setting owner", "shareOf layer setting",
        "lock layer second owner", "unlock layer second owner", "unlock layer second owner",
        "isLocked layer setting owner",
        "version", "changedAt layer setting", "rollback version owner",
        "value client setting", "status client setting", "culprit client setting", "layerOf client setting",
        "isNew client setting", "uses client setting", "found client", "differ client client",
        "statusAt version client setting", "valueAt version client setting"
    };

    private long seed;
    private int settings;
    private int owners;
    private final ConfigBeacon x = new ConfigBeacon();
    private final Model model = new Model();

    private ModelTest(int run) {
        seed = 1000003L * run + 17;
        settings = run % 3 == 0 ? 16 : 3 + run % 5;
        owners = 1 + run % 4;
    }

    private int below(int bound) {
        seed = seed * 6364136223846793005L + 1442695040888963407L;
        return (int) ((seed >>> 33) % bound);
    }

    private int argument(String kind) {
        if (below(60) == 0) {
            int[] edges = {Integer.MIN_VALUE, Integer.MAX_VALUE, -2, -1, 0, 1, 7, 8, 9, 10, 11, 12, 15, 16,
                99, 100, 101, 9999, 10000, -9999, -10000};
            return edges[below(edges.length)];
        }
        switch (kind) {
            case "area": return below(3);
            case "client": return below(Math.max(1, x.clients()));
            case "precedence": return below(4) == 0 ? below(100) : below(3);
            case "selector": return below(4);
            case "which": return below(3) == 0 ? below(4) : 0;
            case "layer": return below(Math.max(1, x.layers()));
            case "setting": return below(settings);
            case "second": return below(settings + 1) - 1;
            case "number": return below(3) == 0 ? below(19999) - 9999 : below(2);
            case "owner": return 1 + below(owners);
            case "share": return below(3) == 0 ? 100 : 1 + below(100);
            default: return below(x.version() + 1);
        }
    }

    private void play(int run, int calls) {
        for (int k = 0; k < calls; k++) {
            String[] call = CALLS[below(CALLS.length)].split(" ");
            int[] arguments = new int[call.length - 1];
            for (int a = 0; a < arguments.length; a++) {
                arguments[a] = argument(call[a + 1]);
            }
            String told = "run " + run + ", call " + k + ": " + call[0] + Arrays.toString(arguments);
            String want = Answers.call(model, call[0], arguments);
            Check.due(told, Answers.call(x, call[0], arguments), want);
            if (k % 97 == 96) {
                compare(told);
            }
        }
    }

    private void compare(String told) {
        String[] got = Answers.all(x).split("\n");
        String[] want = Answers.all(model).split("\n");
        Check.due(told + " and then all questions: their number", got.length, want.length);
        for (int k = 0; k < Math.min(got.length, want.length); k++) {
            Check.due(told + " and then " + want[k].split("=")[0], got[k], want[k]);
        }
    }

    public static void main(String[] args) {
        for (int run = 0; run < 60; run++) {
            // a few runs go on behind the 512th call: nothing but the document's exceptions may come out there too
            new ModelTest(run).play(run, run % 20 == 19 ? 1500 : 512);
        }
        Check.end("ModelTest");
    }
}
