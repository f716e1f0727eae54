import java.util.ArrayList;

/** A configuration service: layers of entries give clients the values of settings. */
public final class ConfigBeacon {
    public static final int NONE = -1;
    public static final int EVERYONE = 0, REGION = 1, GROUP = 2, CLIENT = 3;
    public static final int FOUND = 0, MISSING = 1, CYCLE = 2;

    private static final int MOST_CLIENTS = 12;
    private static final int MOST_LAYERS = 8;
    private static final int SETTINGS = 16;
    private static final int AREAS = 8;
    private static final int GREATEST_PRECEDENCE = 99;
    private static final int GREATEST_NUMBER = 9999;
    private static final int GREATEST_OWNER = 9;
    private static final int NOBODY = 0;
    private static final int WHOLE_SHARE = 100;

    private final ArrayList<Client> allClients = new ArrayList<>();
    private final ArrayList<Layer> allLayers = new ArrayList<>();
    private final ArrayList<Entries> versions = new ArrayList<>();
    private final Inquiry inquiry = new Inquiry();
    private Entries current = new Entries();

    public ConfigBeacon() {
        versions.add(current);
    }

    // ---- clients and layers

    public int client(int region, int group) throws IllegalArgumentException, IllegalStateException {
        checkArgument(isArea(region) && isArea(group));
        checkState(allClients.size() < MOST_CLIENTS);
        allClients.add(new Client(region, group));
        return allClients.size() - 1;
    }

    public void move(int client, int region, int group)
            throws IndexOutOfBoundsException, IllegalArgumentException {
        checkThere(isClient(client));
        checkArgument(isArea(region) && isArea(group));
        Client moved = allClients.get(client);
        moved.region = region;
        moved.group = group;
    }

    public int clients() {
        return allClients.size();
    }

    public int layer(int precedence, int selector, int which)
            throws IllegalArgumentException, IllegalStateException {
        checkArgument(isPrecedence(precedence) && canSelect(selector, which));
        checkState(allLayers.size() < MOST_LAYERS);
        int number = allLayers.size();
        allLayers.add(new Layer(number, precedence, selector, which));
        return number;
    }

    public int rank(int layer, int precedence) throws IndexOutOfBoundsException, IllegalArgumentException {
        checkThere(isLayer(layer));
        checkArgument(isPrecedence(precedence));
        Layer ranked = allLayers.get(layer);
        int before = ranked.precedence;
        ranked.precedence = precedence;
        return before;
    }

    public int layers() {
        return allLayers.size();
    }

    public int layerAt(int place) throws IndexOutOfBoundsException {
        for (int layer = 0; layer < allLayers.size(); layer++) {
            if (placeOf(layer) == place) {
                return layer;
            }
        }
        throw new IndexOutOfBoundsException("no layer has this place");
    }

    public boolean applies(int layer, int client) throws IndexOutOfBoundsException {
        checkThere(isLayer(layer) && isClient(client));
        return reaches(layer, client);
    }

    // ---- entries

    public int set(int layer, int setting, int value, int owner)
            throws IndexOutOfBoundsException, IllegalArgumentException, IllegalStateException {
        checkThere(isCell(layer, setting));
        checkArgument(isNumber(value) && isOwner(owner));
        checkState(isFreeFor(layer, setting, owner));
        enter(layer, setting, new Entry(value, NONE, NONE));
        return version();
    }

    public int template(int layer, int setting, int base, int first, int second, int owner)
            throws IndexOutOfBoundsException, IllegalArgumentException, IllegalStateException {
        checkThere(isCell(layer, setting));
        checkArgument(isTemplate(base, first, second) && isOwner(owner));
        checkState(isFreeFor(layer, setting, owner));
        enter(layer, setting, new Entry(base, first, second));
        return version();
    }

    public int remove(int layer, int setting, int owner)
            throws IndexOutOfBoundsException, IllegalArgumentException, IllegalStateException {
        checkThere(isCell(layer, setting));
        checkArgument(isOwner(owner));
        checkState(isFreeFor(layer, setting, owner) && current.entryOf(layer, setting) != null);
        enter(layer, setting, null);
        return version();
    }

    public boolean has(int layer, int setting) throws IndexOutOfBoundsException {
        checkThere(isCell(layer, setting));
        return current.entryOf(layer, setting) != null;
    }

    // ---- rollouts

    public void roll(int layer, int setting, int value, int owner)
            throws IndexOutOfBoundsException, IllegalArgumentException, IllegalStateException {
        checkThere(isCell(layer, setting));
        checkArgument(isNumber(value) && isOwner(owner));
        checkState(isFreeFor(layer, setting, owner));
        allLayers.get(layer).rollouts[setting] = new Rollout(new Entry(value, NONE, NONE));
    }

    public void rollTemplate(int layer, int setting, int base, int first, int second, int owner)
            throws IndexOutOfBoundsException, IllegalArgumentException, IllegalStateException {
        checkThere(isCell(layer, setting));
        checkArgument(isTemplate(base, first, second) && isOwner(owner));
        checkState(isFreeFor(layer, setting, owner));
        allLayers.get(layer).rollouts[setting] = new Rollout(new Entry(base, first, second));
    }

    public int advance(int layer, int setting, int share, int owner)
            throws IndexOutOfBoundsException, IllegalArgumentException, IllegalStateException {
        checkThere(isCell(layer, setting));
        checkArgument(isNewShare(share) && isOwner(owner));
        Layer rolling = allLayers.get(layer);
        Rollout rollout = rolling.rollouts[setting];
        if (rolling.isHeldAgainst(setting, owner) || rollout == null || share <= rollout.share) {
            throw new IllegalStateException("locked, no rollout, or not a greater share");
        }
        rollout.share = share;
        int shown = countShown(layer, setting, share);
        if (share == WHOLE_SHARE) {
            rolling.rollouts[setting] = null;
            enter(layer, setting, rollout.entry);
        }
        return shown;
    }

    public int abort(int layer, int setting, int owner)
            throws IndexOutOfBoundsException, IllegalArgumentException, IllegalStateException {
        checkThere(isCell(layer, setting));
        checkArgument(isOwner(owner));
        Layer rolling = allLayers.get(layer);
        Rollout rollout = rolling.rollouts[setting];
        if (rolling.isHeldAgainst(setting, owner) || rollout == null) {
            throw new IllegalStateException("locked, or no rollout");
        }
        rolling.rollouts[setting] = null;
        return rollout.share;
    }

    public int shareOf(int layer, int setting) throws IndexOutOfBoundsException {
        checkThere(isCell(layer, setting));
        Rollout rollout = allLayers.get(layer).rollouts[setting];
        return rollout == null ? NONE : rollout.share;
    }

    // ---- locks

    public int lock(int layer, int setting, int owner)
            throws IndexOutOfBoundsException, IllegalArgumentException, IllegalStateException {
        checkThere(isLayer(layer) && isLockable(setting));
        checkArgument(isOwner(owner));
        Layer locked = allLayers.get(layer);
        checkState(locked.canBeHeld(setting, owner));
        locked.holders[Layer.lockOf(setting)] = owner;
        return countLocks(owner);
    }

    public int unlock(int layer, int setting, int owner)
            throws IndexOutOfBoundsException, IllegalArgumentException, IllegalStateException {
        checkThere(isLayer(layer) && isLockable(setting));
        checkArgument(isOwner(owner));
        Layer unlocked = allLayers.get(layer);
        int lock = Layer.lockOf(setting);
        checkState(unlocked.holders[lock] == owner);
        unlocked.holders[lock] = NOBODY;
        return countLocks(owner);
    }

    public boolean isLocked(int layer, int setting, int owner)
            throws IndexOutOfBoundsException, IllegalArgumentException {
        checkThere(isCell(layer, setting));
        checkArgument(isOwner(owner));
        return allLayers.get(layer).isHeldAgainst(setting, owner);
    }

    // ---- versions

    public int version() {
        return versions.size() - 1;
    }

    public int changedAt(int layer, int setting) throws IndexOutOfBoundsException {
        checkThere(isCell(layer, setting));
        return allLayers.get(layer).changes[setting];
    }

    public int rollback(int version, int owner)
            throws IndexOutOfBoundsException, IllegalArgumentException, IllegalStateException {
        checkThere(isVersion(version));
        checkArgument(isOwner(owner));
        Entries wanted = versions.get(version);
        checkState(canTurnInto(wanted, owner));
        return turnInto(wanted);
    }

    // ---- asking

    public long value(int client, int setting) throws IndexOutOfBoundsException, IllegalStateException {
        checkThere(isClient(client) && isSetting(setting));
        ask(client, setting);
        checkState(inquiry.outcome == FOUND);
        return inquiry.values[setting];
    }

    public int status(int client, int setting) throws IndexOutOfBoundsException {
        checkThere(isClient(client) && isSetting(setting));
        ask(client, setting);
        return inquiry.outcome;
    }

    public int culprit(int client, int setting) throws IndexOutOfBoundsException {
        checkThere(isClient(client) && isSetting(setting));
        ask(client, setting);
        return inquiry.failing;
    }

    public int layerOf(int client, int setting) throws IndexOutOfBoundsException {
        checkThere(isClient(client) && isSetting(setting));
        inquiry.begin(client, current, true);
        return decidingLayer(setting);
    }

    public boolean isNew(int client, int setting) throws IndexOutOfBoundsException {
        checkThere(isClient(client) && isSetting(setting));
        inquiry.begin(client, current, true);
        int deciding = decidingLayer(setting);
        return deciding != NONE && allLayers.get(deciding).newEntryFor(client, setting) != null;
    }

    public int uses(int client, int setting) throws IndexOutOfBoundsException {
        checkThere(isClient(client) && isSetting(setting));
        ask(client, setting);
        return inquiry.looked;
    }

    public int found(int client) throws IndexOutOfBoundsException {
        checkThere(isClient(client));
        int set = 0;
        for (int setting = 0; setting < SETTINGS; setting++) {
            ask(client, setting);
            if (inquiry.outcome == FOUND) {
                set |= bit(setting);
            }
        }
        return set;
    }

    public int differ(int client, int other) throws IndexOutOfBoundsException {
        checkThere(isClient(client) && isClient(other));
        int set = 0;
        for (int setting = 0; setting < SETTINGS; setting++) {
            if (differIn(client, other, setting)) {
                set |= bit(setting);
            }
        }
        return set;
    }

    public int statusAt(int version, int client, int setting) throws IndexOutOfBoundsException {
        checkThere(isVersion(version) && isClient(client) && isSetting(setting));
        askAt(version, client, setting);
        return inquiry.outcome;
    }

    public long valueAt(int version, int client, int setting)
            throws IndexOutOfBoundsException, IllegalStateException {
        checkThere(isVersion(version) && isClient(client) && isSetting(setting));
        askAt(version, client, setting);
        checkState(inquiry.outcome == FOUND);
        return inquiry.values[setting];
    }

    // ---- what the document throws

    private static void checkThere(boolean isThere) {
        if (!isThere) {
            throw new IndexOutOfBoundsException("there is no such client, layer, setting or version");
        }
    }

    private static void checkArgument(boolean isInRange) {
        if (!isInRange) {
            throw new IllegalArgumentException("an argument is out of its range");
        }
    }

    private static void checkState(boolean isPossible) {
        if (!isPossible) {
            throw new IllegalStateException("not possible in this state");
        }
    }

    // ---- ranges

    private boolean isClient(int number) {
        return number >= 0 && number < allClients.size();
    }

    private boolean isLayer(int number) {
        return number >= 0 && number < allLayers.size();
    }

    private boolean isVersion(int number) {
        return number >= 0 && number < versions.size();
    }

    private boolean isCell(int layer, int setting) {
        return isLayer(layer) && isSetting(setting);
    }

    private static boolean isSetting(int number) {
        return number >= 0 && number < SETTINGS;
    }

    private static boolean isLockable(int setting) {
        return setting == NONE || isSetting(setting);
    }

    private static boolean isArea(int number) {
        return number >= 0 && number < AREAS;
    }

    private static boolean isPrecedence(int number) {
        return number >= 0 && number <= GREATEST_PRECEDENCE;
    }

    private static boolean canSelect(int selector, int which) {
        switch (selector) {
            case EVERYONE:
                return which == 0;
            case REGION:
            case GROUP:
                return isArea(which);
            case CLIENT:
                return which >= 0 && which < MOST_CLIENTS;
            default:
                return false;
        }
    }

    private static boolean isNumber(int number) {
        return number >= -GREATEST_NUMBER && number <= GREATEST_NUMBER;
    }

    private static boolean isTemplate(int base, int first, int second) {
        return isNumber(base) && isSetting(first) && (second == NONE || isSetting(second));
    }

    private static boolean isOwner(int number) {
        return number > NOBODY && number <= GREATEST_OWNER;
    }

    private static boolean isNewShare(int share) {
        return share > 0 && share <= WHOLE_SHARE;
    }

    // ---- the order of the layers and whom they reach

    private int placeOf(int layer) {
        int place = 0;
        for (int other = 0; other < allLayers.size(); other++) {
            if (goesAhead(other, layer)) {
                place++;
            }
        }
        return place;
    }

    private boolean goesAhead(int layer, int other) {
        int precedence = allLayers.get(layer).precedence;
        int against = allLayers.get(other).precedence;
        return precedence > against || precedence == against && layer > other;
    }

    private boolean reaches(int layer, int client) {
        return allLayers.get(layer).selects(client, allClients.get(client));
    }

    private int countShown(int layer, int setting, int share) {
        int count = 0;
        for (int client = 0; client < allClients.size(); client++) {
            if (reaches(layer, client) && allLayers.get(layer).bucket(client, setting) < share) {
                count++;
            }
        }
        return count;
    }

    private int countLocks(int owner) {
        int count = 0;
        for (int layer = 0; layer < allLayers.size(); layer++) {
            count += allLayers.get(layer).countHeld(owner);
        }
        return count;
    }

    // ---- changing entries

    private boolean isFreeFor(int layer, int setting, int owner) {
        Layer changed = allLayers.get(layer);
        return !changed.isHeldAgainst(setting, owner) && changed.rollouts[setting] == null;
    }

    private void enter(int layer, int setting, Entry entry) {
        turnInto(current.replacing(layer, setting, entry));
    }

    private boolean canTurnInto(Entries wanted, int owner) {
        for (int layer = 0; layer < allLayers.size(); layer++) {
            for (int setting = 0; setting < SETTINGS; setting++) {
                if (isChangedBy(wanted, layer, setting) && !isFreeFor(layer, setting, owner)) {
                    return false;
                }
            }
        }
        return true;
    }

    /** Makes the next version, unless nothing changes; returns how many entries change. */
    private int turnInto(Entries wanted) {
        int changed = 0;
        for (int layer = 0; layer < allLayers.size(); layer++) {
            for (int setting = 0; setting < SETTINGS; setting++) {
                if (isChangedBy(wanted, layer, setting)) {
                    allLayers.get(layer).changes[setting] = versions.size();
                    changed++;
                }
            }
        }
        if (changed > 0) {
            versions.add(wanted);
            current = wanted;
        }
        return changed;
    }

    private boolean isChangedBy(Entries wanted, int layer, int setting) {
        return !Entry.areSame(current.entryOf(layer, setting), wanted.entryOf(layer, setting));
    }

    // ---- working values out

    private void ask(int client, int setting) {
        inquiry.begin(client, current, true);
        workOut(setting);
    }

    private void askAt(int version, int client, int setting) {
        inquiry.begin(client, versions.get(version), false);
        workOut(setting);
    }

    private boolean differIn(int client, int other, int setting) {
        ask(client, setting);
        boolean isFound = inquiry.outcome == FOUND;
        long result = inquiry.values[setting];
        ask(other, setting);
        if (isFound != (inquiry.outcome == FOUND)) {
            return true;
        }
        return isFound && result != inquiry.values[setting];
    }

    /**
     * Works out a value and all that it needs; returns whether it is found.
     * No more than 16 of these are under way at once: a setting that is so already is refused.
     */
    private boolean workOut(int setting) {
        inquiry.looked |= bit(setting);
        if (inquiry.isKnown(setting)) {
            return true;
        }
        if (inquiry.isUnderWay(setting)) {
            return inquiry.fail(CYCLE, setting);
        }
        int deciding = decidingLayer(setting);
        Entry entry = deciding == NONE ? null : shownEntry(deciding, setting);
        if (entry == null) {
            return inquiry.fail(MISSING, setting);
        }
        inquiry.underWay |= bit(setting);
        if (!workOutParts(entry)) {
            return false;
        }
        inquiry.finish(setting, entry.base + partOf(entry.first) + partOf(entry.second));
        return true;
    }

    /** Stops at the first setting that fails: the second one is not looked at then. */
    private boolean workOutParts(Entry entry) {
        return (entry.first == NONE || workOut(entry.first))
                && (entry.second == NONE || workOut(entry.second));
    }

    private long partOf(int setting) {
        return setting == NONE ? 0 : inquiry.values[setting];
    }

    private int decidingLayer(int setting) {
        int deciding = NONE;
        for (int layer = 0; layer < allLayers.size(); layer++) {
            if (reaches(layer, inquiry.client) && shownEntry(layer, setting) != null
                    && (deciding == NONE || goesAhead(layer, deciding))) {
                deciding = layer;
            }
        }
        return deciding;
    }

    private Entry shownEntry(int layer, int setting) {
        if (inquiry.withRollouts) {
            Entry fresh = allLayers.get(layer).newEntryFor(inquiry.client, setting);
            if (fresh != null) {
                return fresh;
            }
        }
        return inquiry.entries.entryOf(layer, setting);
    }

    private static int bit(int setting) {
        return 1 << setting;
    }

    private static final class Client {
        private int region;
        private int group;

        Client(int region, int group) {
            this.region = region;
            this.group = group;
        }
    }

    /** A template, or a constant: then it is its base alone, and first and second are NONE. */
    private static final class Entry {
        private final int base;
        private final int first;
        private final int second;

        Entry(int base, int first, int second) {
            this.base = base;
            this.first = first;
            this.second = second;
        }

        static boolean areSame(Entry one, Entry other) {
            if (one == null || other == null) {
                return one == null && other == null;
            }
            return one.base == other.base && one.first == other.first && one.second == other.second;
        }
    }

    /** The entries of all layers in one version; never changed once it is one. */
    private static final class Entries {
        private final Entry[] all = new Entry[MOST_LAYERS * SETTINGS];

        Entry entryOf(int layer, int setting) {
            return all[layer * SETTINGS + setting];
        }

        Entries replacing(int layer, int setting, Entry entry) {
            Entries next = new Entries();
            for (int k = 0; k < MOST_LAYERS * SETTINGS; k++) {
                next.all[k] = all[k];
            }
            next.all[layer * SETTINGS + setting] = entry;
            return next;
        }
    }

    private static final class Rollout {
        private final Entry entry;
        private int share;

        Rollout(Entry entry) {
            this.entry = entry;
        }
    }

    private static final class Layer {
        private static final int WHOLE = SETTINGS;

        private final int number;
        private final int selector;
        private final int which;
        private int precedence;
        /** The owner of each setting's lock, and at WHOLE that of the layer as a whole. */
        private final int[] holders = new int[SETTINGS + 1];
        private final Rollout[] rollouts = new Rollout[SETTINGS];
        /** The version by which each entry became what it is. */
        private final int[] changes = new int[SETTINGS];

        Layer(int number, int precedence, int selector, int which) {
            this.number = number;
            this.precedence = precedence;
            this.selector = selector;
            this.which = which;
        }

        static int lockOf(int setting) {
            return setting == NONE ? WHOLE : setting;
        }

        boolean selects(int client, Client described) {
            switch (selector) {
                case REGION:
                    return described.region == which;
                case GROUP:
                    return described.group == which;
                case CLIENT:
                    return client == which;
                default:
                    return true;
            }
        }

        int bucket(int client, int setting) {
            return (31 * client + 17 * setting + 7 * number) % WHOLE_SHARE;
        }

        /** The entry that a rollout shows the client; null if none does. */
        Entry newEntryFor(int client, int setting) {
            Rollout rollout = rollouts[setting];
            return rollout != null && bucket(client, setting) < rollout.share ? rollout.entry : null;
        }

        boolean isHeldAgainst(int setting, int owner) {
            return isHeldByOther(WHOLE, owner) || isHeldByOther(setting, owner);
        }

        boolean canBeHeld(int setting, int owner) {
            if (setting != NONE) {
                return !isHeldAgainst(setting, owner);
            }
            for (int lock = 0; lock <= WHOLE; lock++) {
                if (isHeldByOther(lock, owner)) {
                    return false;
                }
            }
            return true;
        }

        int countHeld(int owner) {
            int count = 0;
            for (int lock = 0; lock <= WHOLE; lock++) {
                if (holders[lock] == owner) {
                    count++;
                }
            }
            return count;
        }

        private boolean isHeldByOther(int lock, int owner) {
            return holders[lock] != NOBODY && holders[lock] != owner;
        }
    }

    /** What is known while one value is worked out for one client: made once, used for every question. */
    private static final class Inquiry {
        private final long[] values = new long[SETTINGS];
        private int client;
        private Entries entries;
        private boolean withRollouts;
        private int looked;
        private int underWay;
        private int known;
        private int outcome;
        private int failing;

        void begin(int client, Entries entries, boolean withRollouts) {
            this.client = client;
            this.entries = entries;
            this.withRollouts = withRollouts;
            looked = 0;
            underWay = 0;
            known = 0;
            outcome = FOUND;
            failing = NONE;
        }

        boolean isKnown(int setting) {
            return (known & bit(setting)) != 0;
        }

        boolean isUnderWay(int setting) {
            return (underWay & bit(setting)) != 0;
        }

        void finish(int setting, long value) {
            values[setting] = value;
            underWay &= ~bit(setting);
            known |= bit(setting);
        }

        boolean fail(int status, int culprit) {
            outcome = status;
            failing = culprit;
            return false;
        }
    }
}
