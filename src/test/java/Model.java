import java.util.ArrayList;
import java.util.Arrays;
import java.util.HashMap;
import java.util.HashSet;
import java.util.List;
import java.util.Map;
import java.util.Objects;
import java.util.Set;
import java.util.TreeSet;

/** The document once more, in its most roundabout form: everything is derived anew at each question. */
final class Model {
    /** What became of a value that fails. */
    private static final class Failure extends RuntimeException {
        private static final long serialVersionUID = 1L;
        final int status;
        final int culprit;

        Failure(int status, int culprit) {
            super(null, null, false, false);
            this.status = status;
            this.culprit = culprit;
        }
    }

    private final List<int[]> clients = new ArrayList<>();
    private final List<int[]> layers = new ArrayList<>();
    private final List<Map<List<Integer>, List<Integer>>> history = new ArrayList<>();
    private final Map<List<Integer>, List<Integer>> rolling = new HashMap<>();
    private final Map<List<Integer>, Integer> shares = new HashMap<>();
    private final Set<List<Integer>> locks = new HashSet<>();

    Model() {
        history.add(new HashMap<>());
    }

    private static void index(boolean fine) {
        if (!fine) {
            throw new IndexOutOfBoundsException();
        }
    }

    private static void argument(boolean fine) {
        if (!fine) {
            throw new IllegalArgumentException();
        }
    }

    private static void state(boolean fine) {
        if (!fine) {
            throw new IllegalStateException();
        }
    }

    private static boolean in(long number, long least, long most) {
        return least <= number && number <= most;
    }

    private static List<Integer> cell(int layer, int setting) {
        return Arrays.asList(layer, setting);
    }

    private void cellIsThere(int layer, int setting) {
        index(in(layer, 0, layers.size() - 1));
        index(in(setting, 0, 15));
    }

    private void clientIsThere(int client) {
        index(in(client, 0, clients.size() - 1));
    }

    private Map<List<Integer>, List<Integer>> now() {
        return history.get(history.size() - 1);
    }

    int client(int region, int group) {
        argument(in(region, 0, 7) && in(group, 0, 7));
        state(clients.size() != 12);
        clients.add(new int[] {region, group});
        return clients.size() - 1;
    }

    void move(int client, int region, int group) {
        clientIsThere(client);
        argument(in(region, 0, 7) && in(group, 0, 7));
        clients.set(client, new int[] {region, group});
    }

    int clients() {
        return clients.size();
    }

    int layer(int precedence, int selector, int which) {
        argument(in(precedence, 0, 99));
        argument(in(selector, 0, 3));
        argument(in(which, 0, new int[] {0, 7, 7, 11}[selector]));
        state(layers.size() != 8);
        layers.add(new int[] {precedence, selector, which});
        return layers.size() - 1;
    }

    int rank(int layer, int precedence) {
        index(in(layer, 0, layers.size() - 1));
        argument(in(precedence, 0, 99));
        int before = layers.get(layer)[0];
        layers.get(layer)[0] = precedence;
        return before;
    }

    int layers() {
        return layers.size();
    }

    private List<Integer> order() {
        List<Integer> order = new ArrayList<>();
        for (int layer = 0; layer < layers.size(); layer++) {
            order.add(layer);
        }
        order.sort((a, b) -> layers.get(a)[0] != layers.get(b)[0]
                ? layers.get(b)[0] - layers.get(a)[0] : b - a);
        return order;
    }

    int layerAt(int place) {
        index(in(place, 0, layers.size() - 1));
        return order().get(place);
    }

    boolean applies(int layer, int client) {
        index(in(layer, 0, layers.size() - 1));
        clientIsThere(client);
        int selector = layers.get(layer)[1];
        int which = layers.get(layer)[2];
        int[] parts = {0, clients.get(client)[0], clients.get(client)[1], client};
        return parts[selector] == which;
    }

    private void put(int layer, int setting, List<Integer> entry) {
        if (!Objects.equals(now().get(cell(layer, setting)), entry)) {
            Map<List<Integer>, List<Integer>> next = new HashMap<>(now());
            next.remove(cell(layer, setting));
            if (entry != null) {
                next.put(cell(layer, setting), entry);
            }
            history.add(next);
        }
    }

    private boolean free(int layer, int setting, int owner) {
        return !isLocked(layer, setting, owner) && !rolling.containsKey(cell(layer, setting));
    }

    private static void templateIsFine(int base, int first, int second, int owner) {
        argument(in(base, -9999, 9999));
        argument(in(first, 0, 15) && in(second, -1, 15));
        argument(in(owner, 1, 9));
    }

    private static List<Integer> entry(int base, int first, int second) {
        return second == -1 ? Arrays.asList(base, first) : Arrays.asList(base, first, second);
    }

    int set(int layer, int setting, int value, int owner) {
        cellIsThere(layer, setting);
        argument(in(value, -9999, 9999) && in(owner, 1, 9));
        state(free(layer, setting, owner));
        put(layer, setting, Arrays.asList(value));
        return version();
    }

    int template(int layer, int setting, int base, int first, int second, int owner) {
        cellIsThere(layer, setting);
        templateIsFine(base, first, second, owner);
        state(free(layer, setting, owner));
        put(layer, setting, entry(base, first, second));
        return version();
    }

    int remove(int layer, int setting, int owner) {
        cellIsThere(layer, setting);
        argument(in(owner, 1, 9));
        state(free(layer, setting, owner) && has(layer, setting));
        put(layer, setting, null);
        return version();
    }

    boolean has(int layer, int setting) {
        cellIsThere(layer, setting);
        return now().containsKey(cell(layer, setting));
    }

    void roll(int layer, int setting, int value, int owner) {
        cellIsThere(layer, setting);
        argument(in(value, -9999, 9999) && in(owner, 1, 9));
        state(free(layer, setting, owner));
        rolling.put(cell(layer, setting), Arrays.asList(value));
        shares.put(cell(layer, setting), 0);
    }

    void rollTemplate(int layer, int setting, int base, int first, int second, int owner) {
        cellIsThere(layer, setting);
        templateIsFine(base, first, second, owner);
        state(free(layer, setting, owner));
        rolling.put(cell(layer, setting), entry(base, first, second));
        shares.put(cell(layer, setting), 0);
    }

    int advance(int layer, int setting, int share, int owner) {
        cellIsThere(layer, setting);
        argument(in(share, 1, 100) && in(owner, 1, 9));
        state(!isLocked(layer, setting, owner));
        state(rolling.containsKey(cell(layer, setting)));
        state(share > shares.get(cell(layer, setting)));
        shares.put(cell(layer, setting), share);
        int count = 0;
        for (int client = 0; client < clients.size(); client++) {
            if (applies(layer, client) && showsNew(layer, setting, client)) {
                count++;
            }
        }
        if (share == 100) {
            put(layer, setting, rolling.remove(cell(layer, setting)));
            shares.remove(cell(layer, setting));
        }
        return count;
    }

    int abort(int layer, int setting, int owner) {
        cellIsThere(layer, setting);
        argument(in(owner, 1, 9));
        state(!isLocked(layer, setting, owner));
        state(rolling.containsKey(cell(layer, setting)));
        rolling.remove(cell(layer, setting));
        return shares.remove(cell(layer, setting));
    }

    int shareOf(int layer, int setting) {
        cellIsThere(layer, setting);
        return shares.getOrDefault(cell(layer, setting), -1);
    }

    private int lockCount(int owner) {
        int count = 0;
        for (List<Integer> lock : locks) {
            count += lock.get(2) == owner ? 1 : 0;
        }
        return count;
    }

    int lock(int layer, int setting, int owner) {
        index(in(layer, 0, layers.size() - 1));
        index(in(setting, -1, 15));
        argument(in(owner, 1, 9));
        for (List<Integer> lock : locks) {
            boolean touches = lock.get(0) == layer
                    && (setting == -1 || lock.get(1) == -1 || lock.get(1) == setting);
            state(!touches || lock.get(2) == owner);
        }
        locks.add(Arrays.asList(layer, setting, owner));
        return lockCount(owner);
    }

    int unlock(int layer, int setting, int owner) {
        index(in(layer, 0, layers.size() - 1));
        index(in(setting, -1, 15));
        argument(in(owner, 1, 9));
        state(locks.remove(Arrays.asList(layer, setting, owner)));
        return lockCount(owner);
    }

    boolean isLocked(int layer, int setting, int owner) {
        cellIsThere(layer, setting);
        argument(in(owner, 1, 9));
        for (int other = 1; other <= 9; other++) {
            if (other != owner && (locks.contains(Arrays.asList(layer, setting, other))
                    || locks.contains(Arrays.asList(layer, -1, other)))) {
                return true;
            }
        }
        return false;
    }

    int version() {
        return history.size() - 1;
    }

    int changedAt(int layer, int setting) {
        cellIsThere(layer, setting);
        int version = version();
        while (version > 0 && Objects.equals(history.get(version).get(cell(layer, setting)),
                history.get(version - 1).get(cell(layer, setting)))) {
            version--;
        }
        return version;
    }

    int rollback(int version, int owner) {
        index(in(version, 0, version()));
        argument(in(owner, 1, 9));
        Set<List<Integer>> changing = new HashSet<>(now().keySet());
        changing.addAll(history.get(version).keySet());
        changing.removeIf(cell -> Objects.equals(now().get(cell), history.get(version).get(cell)));
        for (List<Integer> cell : changing) {
            state(free(cell.get(0), cell.get(1), owner));
        }
        if (!changing.isEmpty()) {
            history.add(new HashMap<>(history.get(version)));
        }
        return changing.size();
    }

    private boolean showsNew(int layer, int setting, int client) {
        return rolling.containsKey(cell(layer, setting))
                && (31 * client + 17 * setting + 7 * layer) % 100 < shares.get(cell(layer, setting));
    }

    private List<Integer> shown(int version, int layer, int setting, int client) {
        if (version == -1 && showsNew(layer, setting, client)) {
            return rolling.get(cell(layer, setting));
        }
        return history.get(version == -1 ? version() : version).get(cell(layer, setting));
    }

    private int deciding(int version, int client, int setting) {
        for (int layer : order()) {
            if (applies(layer, client) && shown(version, layer, setting, client) != null) {
                return layer;
            }
        }
        return -1;
    }

    /** The version -1 is the state that there is, with its rollouts. */
    private long work(int version, int client, int setting, List<Integer> open, Set<Integer> looked) {
        looked.add(setting);
        if (open.contains(setting)) {
            throw new Failure(2, setting);
        }
        int layer = deciding(version, client, setting);
        if (layer == -1) {
            throw new Failure(1, setting);
        }
        List<Integer> entry = shown(version, layer, setting, client);
        List<Integer> deeper = new ArrayList<>(open);
        deeper.add(setting);
        long sum = entry.get(0);
        for (int part : entry.subList(1, entry.size())) {
            sum += work(version, client, part, deeper, looked);
        }
        return sum;
    }

    private int[] failure(int version, int client, int setting, Set<Integer> looked) {
        try {
            work(version, client, setting, new ArrayList<>(), looked);
            return new int[] {0, -1};
        } catch (Failure e) {
            return new int[] {e.status, e.culprit};
        }
    }

    private void questionIsFine(int client, int setting) {
        clientIsThere(client);
        index(in(setting, 0, 15));
    }

    long value(int client, int setting) {
        questionIsFine(client, setting);
        state(status(client, setting) == 0);
        return work(-1, client, setting, new ArrayList<>(), new TreeSet<>());
    }

    int status(int client, int setting) {
        questionIsFine(client, setting);
        return failure(-1, client, setting, new TreeSet<>())[0];
    }

    int culprit(int client, int setting) {
        questionIsFine(client, setting);
        return failure(-1, client, setting, new TreeSet<>())[1];
    }

    int layerOf(int client, int setting) {
        questionIsFine(client, setting);
        return deciding(-1, client, setting);
    }

    boolean isNew(int client, int setting) {
        questionIsFine(client, setting);
        int layer = deciding(-1, client, setting);
        return layer != -1 && showsNew(layer, setting, client);
    }

    int uses(int client, int setting) {
        questionIsFine(client, setting);
        Set<Integer> looked = new TreeSet<>();
        failure(-1, client, setting, looked);
        int set = 0;
        for (int one : looked) {
            set += (int) Math.pow(2, one);
        }
        return set;
    }

    int found(int client) {
        clientIsThere(client);
        int set = 0;
        for (int setting = 15; setting >= 0; setting--) {
            set = 2 * set + (status(client, setting) == 0 ? 1 : 0);
        }
        return set;
    }

    private String told(int client, int setting) {
        return status(client, setting) == 0 ? "" + value(client, setting) : "fails";
    }

    int differ(int client, int other) {
        clientIsThere(client);
        clientIsThere(other);
        int set = 0;
        for (int setting = 15; setting >= 0; setting--) {
            set = 2 * set + (told(client, setting).equals(told(other, setting)) ? 0 : 1);
        }
        return set;
    }

    int statusAt(int version, int client, int setting) {
        index(in(version, 0, version()));
        questionIsFine(client, setting);
        return failure(version, client, setting, new TreeSet<>())[0];
    }

    long valueAt(int version, int client, int setting) {
        state(statusAt(version, client, setting) == 0);
        return work(version, client, setting, new ArrayList<>(), new TreeSet<>());
    }
}
