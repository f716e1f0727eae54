import java.util.HashMap;
import java.util.Map;
import java.util.Set;
import java.util.regex.Matcher;
import java.util.regex.Pattern;

/**
 * One test under src/test/sentences: a run of calls on a new object. README.md tells how its rows are written.
 * All calls go to the class and to the model, which must answer as the row says, both of them.
 */
final class Sentence {
    private static final Set<String> ASKING = Set.of("clients", "layers", "layerAt", "applies", "has", "shareOf",
            "isLocked", "version", "changedAt", "value", "status", "culprit", "layerOf", "isNew", "uses", "found",
            "differ", "statusAt", "valueAt");
    private static final Pattern LOOP = Pattern.compile("for (\\w+) (\\S+)\\.\\.([^:]+): (.+)");
    private static final Pattern OPERATION = Pattern.compile("(-?\\w+)([-+*])(\\w+)");
    /** The document promises nothing of later calls. */
    private static final int MOST_CALLS = 512;

    private final String title;
    private final ConfigBeacon x = new ConfigBeacon();
    /** Gets no call that asks or is refused: in the end there must be no difference between it and x. */
    private final ConfigBeacon twin = new ConfigBeacon();
    private final Model model = new Model();
    private final Map<String, Integer> names = new HashMap<>();
    private int calls = 0;
    private int dues = 0;

    Sentence(String title) {
        this.title = title;
        names.put("NONE", ConfigBeacon.NONE);
        names.put("EVERYONE", ConfigBeacon.EVERYONE);
        names.put("REGION", ConfigBeacon.REGION);
        names.put("GROUP", ConfigBeacon.GROUP);
        names.put("CLIENT", ConfigBeacon.CLIENT);
        names.put("FOUND", ConfigBeacon.FOUND);
        names.put("MISSING", ConfigBeacon.MISSING);
        names.put("CYCLE", ConfigBeacon.CYCLE);
        names.put("MIN", Integer.MIN_VALUE);
        names.put("MAX", Integer.MAX_VALUE);
    }

    void row(String row) {
        Matcher loop = LOOP.matcher(row);
        if (loop.matches()) {
            int last = number(loop.group(3));
            for (int k = number(loop.group(2)); k <= last; k++) {
                names.put(loop.group(1), k);
                row(loop.group(4));
            }
            names.remove(loop.group(1));
        } else if (row.contains(" throws ")) {
            String[] parts = row.split(" throws ");
            refused(parts[0], "throws.java.lang." + parts[1] + "Exception");
        } else if (row.contains(" = ")) {
            String[] parts = row.split(" = ");
            answered(parts[0], answer(parts[1]));
        } else {
            boolean isRefused = answers(row).contains("throws");
            Check.due(title + ": " + row + " throws", isRefused, false);
        }
    }

    void finish() {
        Check.due(title + ": there are answers that are due", dues > 0, true);
        Check.due(title + ": no more than " + MOST_CALLS + " calls", calls <= MOST_CALLS, true);
        String[] got = Answers.everything(x).split("\n");
        String[] want = Answers.everything(twin).split("\n");
        for (int k = 0; k < Math.min(got.length, want.length); k++) {
            if (!got[k].equals(want[k])) {
                Check.due(title + ": refused calls and those that ask change something", got[k], want[k]);
                return;
            }
        }
        Check.due(title + ": refused calls and those that ask change something", got.length, want.length);
    }

    private void answered(String call, String due) {
        dues++;
        Check.due(title + ": " + told(call), answers(call), due);
    }

    private void refused(String call, String due) {
        dues++;
        calls++;
        String before = Answers.all(x);
        String name = call.split(" ")[0];
        Check.due(title + ": " + told(call), Answers.call(x, name, arguments(call)), due);
        Check.due(title + ": " + told(call) + " changes something", !Answers.all(x).equals(before), false);
        Check.due(title + ": the model's " + told(call), Answers.call(model, name, arguments(call)), due);
    }

    private String answers(String call) {
        calls++;
        String name = call.split(" ")[0];
        if (!ASKING.contains(name)) {
            Answers.call(twin, name, arguments(call));
        }
        String answer = Answers.call(x, name, arguments(call));
        Check.due(title + ": the model's " + told(call), Answers.call(model, name, arguments(call)), answer);
        return answer;
    }

    private String told(String call) {
        StringBuilder text = new StringBuilder(call.split(" ")[0]);
        for (int argument : arguments(call)) {
            text.append(' ').append(argument);
        }
        return text.toString();
    }

    private int[] arguments(String call) {
        String[] words = call.split(" ");
        int[] arguments = new int[words.length - 1];
        for (int k = 0; k < arguments.length; k++) {
            arguments[k] = number(words[k + 1]);
        }
        return arguments;
    }

    private String answer(String due) {
        if (due.equals("true") || due.equals("false")) {
            return due;
        }
        return String.valueOf(due.startsWith("{") ? set(due.substring(1, due.length() - 1)) : number(due));
    }

    /** Numbers and ranges of them, as the bits of a number. */
    private int set(String members) {
        int set = 0;
        for (String member : members.trim().split(" ")) {
            String[] ends = member.split("\\.\\.");
            int last = member.isEmpty() ? -1 : number(ends[ends.length - 1]);
            for (int k = member.isEmpty() ? 0 : number(ends[0]); k <= last; k++) {
                set |= 1 << k;
            }
        }
        return set;
    }

    private int number(String word) {
        Matcher operation = OPERATION.matcher(word);
        if (operation.matches()) {
            int left = number(operation.group(1));
            int right = number(operation.group(3));
            switch (operation.group(2)) {
                case "+": return left + right;
                case "-": return left - right;
                default: return left * right;
            }
        }
        return names.containsKey(word) ? names.get(word) : Integer.parseInt(word);
    }
}
