/** Promises 19 to 21. */
final class LocksTest {
    private static final int NONE = ConfigBeacon.NONE;

    private static ConfigBeacon service() {
        ConfigBeacon x = new ConfigBeacon();
        x.layer(10, 0, 0);
        x.layer(20, 0, 0);
        x.layer(30, 0, 0);
        return x;
    }

    private static void promise19Lock() {
        ConfigBeacon x = service();
        Check.due("19: the first lock", x.lock(0, 0, 1), 1);
        Check.due("19: the same one", x.lock(0, 0, 1), 1);
        Check.due("19: one in another layer", x.lock(1, 15, 1), 2);
        Check.due("19: the layer as a whole beside its own setting", x.lock(0, NONE, 1), 3);
        Check.due("19: that one once more", x.lock(0, NONE, 1), 3);
        Check.due("19: a setting in one's own layer", x.lock(0, 5, 1), 4);
        Check.due("19: another owner's count", x.lock(1, 14, 9), 1);
        Check.due("19: the version stays", x.version(), 0);
        Check.refused(x, "19: layer -1", Check.INDEX, () -> x.lock(-1, 0, 1));
        Check.refused(x, "19: layer 3 of 3", Check.INDEX, () -> x.lock(3, 0, 1));
        Check.refused(x, "19: setting -2", Check.INDEX, () -> x.lock(0, -2, 1));
        Check.refused(x, "19: setting 16", Check.INDEX, () -> x.lock(0, 16, 1));
        Check.refused(x, "19: there goes ahead of range", Check.INDEX, () -> x.lock(3, 0, 0));
        Check.refused(x, "19: owner 0", Check.ARGUMENT, () -> x.lock(2, 0, 0));
        Check.refused(x, "19: owner 10", Check.ARGUMENT, () -> x.lock(2, 0, 10));
        Check.refused(x, "19: range goes ahead of state", Check.ARGUMENT, () -> x.lock(0, 0, 0));
        Check.refused(x, "19: another's setting", Check.STATE, () -> x.lock(1, 15, 9));
        Check.refused(x, "19: another's layer", Check.STATE, () -> x.lock(0, NONE, 9));
        Check.refused(x, "19: a setting in another's layer", Check.STATE, () -> x.lock(0, 1, 9));
        Check.refused(x, "19: a layer with another's setting", Check.STATE, () -> x.lock(1, NONE, 9));
        Check.refused(x, "19: and for the other one of them", Check.STATE, () -> x.lock(1, NONE, 1));
        x.lock(2, 0, 1);
        Check.refused(x, "19: a layer with another's first setting", Check.STATE, () -> x.lock(2, NONE, 9));
        x.unlock(2, 0, 1);
        x.lock(2, NONE, 1);
        Check.refused(x, "19: another's layer without a locked setting", Check.STATE, () -> x.lock(2, NONE, 9));
        x.unlock(2, NONE, 1);
        Check.due("19: after refusals", x.lock(2, NONE, 9), 2);
        x.lock(1, 3, 5);
        Check.due("19: 17 locks in a layer", lockAll(x, 2, 9), 18);
    }

    private static int lockAll(ConfigBeacon x, int layer, int owner) {
        int count = 0;
        for (int setting = 0; setting < 16; setting++) {
            count = x.lock(layer, setting, owner);
        }
        return count;
    }

    private static void promise20Unlock() {
        ConfigBeacon x = service();
        x.lock(0, NONE, 1);
        x.lock(0, 0, 1);
        x.lock(1, 15, 1);
        x.lock(2, 3, 2);
        Check.due("20: the layer", x.unlock(0, NONE, 1), 2);
        Check.due("20: the setting's lock stays", x.isLocked(0, 0, 2), true);
        Check.due("20: the rest is free", x.isLocked(0, 1, 2), false);
        Check.refused(x, "20: twice", Check.STATE, () -> x.unlock(0, NONE, 1));
        x.lock(0, NONE, 1);
        Check.due("20: the setting", x.unlock(0, 0, 1), 2);
        Check.due("20: the layer's lock stays", x.isLocked(0, 0, 2), true);
        Check.refused(x, "20: layer -1", Check.INDEX, () -> x.unlock(-1, 0, 1));
        Check.refused(x, "20: layer 3 of 3", Check.INDEX, () -> x.unlock(3, 0, 1));
        Check.refused(x, "20: setting -2", Check.INDEX, () -> x.unlock(0, -2, 1));
        Check.refused(x, "20: setting 16", Check.INDEX, () -> x.unlock(0, 16, 1));
        Check.refused(x, "20: there goes ahead of range", Check.INDEX, () -> x.unlock(0, 16, 0));
        Check.refused(x, "20: owner 0, as if nobody were one", Check.ARGUMENT, () -> x.unlock(2, 0, 0));
        Check.refused(x, "20: owner 10", Check.ARGUMENT, () -> x.unlock(2, 0, 10));
        Check.refused(x, "20: range goes ahead of state", Check.ARGUMENT, () -> x.unlock(0, 3, 0));
        Check.refused(x, "20: the layer's lock is not the setting's", Check.STATE, () -> x.unlock(0, 3, 1));
        Check.refused(x, "20: the setting's lock is not the layer's", Check.STATE, () -> x.unlock(1, NONE, 1));
        Check.refused(x, "20: another's lock", Check.STATE, () -> x.unlock(2, 3, 1));
        Check.refused(x, "20: no lock", Check.STATE, () -> x.unlock(2, 4, 2));
        Check.due("20: the last one", x.unlock(2, 3, 2), 0);
        Check.due("20: it can be locked by others", x.lock(2, 3, 1), 3);
    }

    private static void promise21IsLocked() {
        ConfigBeacon x = service();
        x.lock(0, 7, 2);
        x.lock(1, NONE, 3);
        Check.due("21: another's setting", x.isLocked(0, 7, 1), true);
        Check.due("21: one's own setting", x.isLocked(0, 7, 2), false);
        Check.due("21: another setting", x.isLocked(0, 8, 1), false);
        Check.due("21: another's layer, first setting", x.isLocked(1, 0, 9), true);
        Check.due("21: another's layer, last setting", x.isLocked(1, 15, 2), true);
        Check.due("21: one's own layer", x.isLocked(1, 15, 3), false);
        Check.due("21: no lock at all", x.isLocked(2, 7, 1), false);
        Check.refused(x, "21: layer -1", Check.INDEX, () -> x.isLocked(-1, 0, 1));
        Check.refused(x, "21: layer 3 of 3", Check.INDEX, () -> x.isLocked(3, 0, 1));
        Check.refused(x, "21: setting NONE", Check.INDEX, () -> x.isLocked(1, NONE, 1));
        Check.refused(x, "21: setting 16", Check.INDEX, () -> x.isLocked(1, 16, 1));
        Check.refused(x, "21: there goes ahead of range", Check.INDEX, () -> x.isLocked(1, 16, 0));
        Check.refused(x, "21: owner 0", Check.ARGUMENT, () -> x.isLocked(0, 7, 0));
        Check.refused(x, "21: owner 10", Check.ARGUMENT, () -> x.isLocked(0, 7, 10));
    }

    public static void main(String[] args) {
        promise19Lock();
        promise20Unlock();
        promise21IsLocked();
        Check.end("LocksTest");
    }
}
