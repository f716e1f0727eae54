/** Promises 22 to 24. */
final class VersionsTest {
    private static final int NONE = ConfigBeacon.NONE;

    private static ConfigBeacon service() {
        ConfigBeacon x = new ConfigBeacon();
        x.client(0, 0);
        x.layer(10, 0, 0);
        x.layer(20, 0, 0);
        return x;
    }

    private static void promise22Version() {
        ConfigBeacon x = service();
        Check.due("22: clients and layers make none", x.version(), 0);
        x.rank(0, 5);
        x.move(0, 1, 1);
        x.lock(0, 0, 1);
        x.unlock(0, 0, 1);
        x.roll(0, 0, 5, 1);
        x.advance(0, 0, 99, 1);
        x.abort(0, 0, 1);
        Check.due("22: neither do ranks, locks and waves", x.version(), 0);
        x.set(0, 0, 5, 1);
        Check.due("22: set does", x.version(), 1);
        x.set(0, 0, 5, 1);
        Check.due("22: not with the same entry", x.version(), 1);
        x.template(0, 0, 5, 0, NONE, 1);
        Check.due("22: template does", x.version(), 2);
        x.remove(0, 0, 1);
        Check.due("22: remove does", x.version(), 3);
        x.roll(0, 0, 5, 1);
        x.advance(0, 0, 100, 1);
        Check.due("22: a rollout by reaching 100", x.version(), 4);
        x.rollback(4, 1);
        Check.due("22: a rollback that changes nothing", x.version(), 4);
        x.rollback(1, 1);
        Check.due("22: one to the same entries under another version", x.version(), 4);
        x.rollback(0, 1);
        Check.due("22: rollback does", x.version(), 5);
    }

    private static void promise23ChangedAt() {
        ConfigBeacon x = service();
        Check.due("23: never an entry", x.changedAt(0, 0), 0);
        x.set(0, 0, 1, 1);
        x.set(1, 15, 1, 1);
        x.set(0, 0, 1, 1);
        Check.due("23: the same entry", x.changedAt(0, 0), 1);
        Check.due("23: the other one", x.changedAt(1, 15), 2);
        Check.due("23: one beside it", x.changedAt(1, 0), 0);
        x.set(0, 0, 2, 1);
        Check.due("23: another entry", x.changedAt(0, 0), 3);
        x.remove(0, 0, 1);
        Check.due("23: taken out", x.changedAt(0, 0), 4);
        x.roll(0, 0, 3, 1);
        x.advance(0, 0, 50, 1);
        Check.due("23: a wave", x.changedAt(0, 0), 4);
        x.advance(0, 0, 100, 1);
        Check.due("23: a rollout that is over", x.changedAt(0, 0), 5);
        x.rollback(2, 1);
        Check.due("23: come back by a rollback", x.changedAt(0, 0), 6);
        Check.due("23: untouched by it", x.changedAt(1, 15), 2);
        x.rollback(0, 1);
        Check.due("23: taken out by a rollback", x.changedAt(1, 15), 7);
        Check.refused(x, "23: layer -1", Check.INDEX, () -> x.changedAt(-1, 0));
        Check.refused(x, "23: layer 2 of 2", Check.INDEX, () -> x.changedAt(2, 0));
        Check.refused(x, "23: setting -1", Check.INDEX, () -> x.changedAt(0, -1));
        Check.refused(x, "23: setting 16", Check.INDEX, () -> x.changedAt(0, 16));
    }

    private static void promise24Rollback() {
        ConfigBeacon x = service();
        Check.due("24: to the first version at once", x.rollback(0, 1), 0);
        x.set(0, 0, 1, 1);
        x.set(0, 1, 2, 1);
        x.template(0, 2, 3, 0, 1, 1);
        x.remove(0, 0, 1);
        x.set(0, 1, 5, 1);
        Check.due("24: come back, changed, and the same", x.rollback(3, 9), 2);
        Check.due("24: the next version", x.version(), 6);
        Check.due("24: the template over them", x.value(0, 2), 6L);
        x.layer(30, 0, 0);
        x.set(2, 15, 9, 1);
        Check.due("24: a layer that is younger than the version", x.rollback(1, 1), 3);
        Check.due("24: it has no entry", x.has(2, 15), false);
        Check.due("24: what stays", x.value(0, 0), 1L);
        Check.due("24: to the version before the rollback", x.rollback(7, 1), 3);
        Check.due("24: its entries", x.value(0, 15), 9L);
        Check.due("24: to the one that there is", x.rollback(9, 1), 0);
        Check.due("24: none made", x.version(), 9);
        Check.refused(x, "24: version -1", Check.INDEX, () -> x.rollback(-1, 1));
        Check.refused(x, "24: version 10 of 9", Check.INDEX, () -> x.rollback(10, 1));
        Check.refused(x, "24: there goes ahead of range", Check.INDEX, () -> x.rollback(10, 0));
        Check.refused(x, "24: owner 0", Check.ARGUMENT, () -> x.rollback(9, 0));
        Check.refused(x, "24: owner 10", Check.ARGUMENT, () -> x.rollback(9, 10));
    }

    /** Versions: 0 without entries, 1 with 0/0, 2 with 0/0 and 1/1. */
    private static void promise24RollbackRefused() {
        ConfigBeacon x = service();
        x.set(0, 0, 1, 1);
        x.set(1, 1, 2, 1);
        x.lock(1, 1, 2);
        Check.refused(x, "24: a locked setting", Check.STATE, () -> x.rollback(1, 1));
        Check.refused(x, "24: one of several", Check.STATE, () -> x.rollback(0, 1));
        Check.refused(x, "24: range goes ahead of state", Check.ARGUMENT, () -> x.rollback(0, 0));
        Check.due("24: a lock on what stays", x.rollback(2, 1), 0);
        Check.due("24: one's own lock", x.rollback(1, 2), 1);
        x.unlock(1, 1, 2);
        x.lock(0, NONE, 3);
        Check.due("24: a locked layer that stays as it is", x.rollback(2, 1), 1);
        Check.refused(x, "24: a locked layer", Check.STATE, () -> x.rollback(0, 1));
        x.unlock(0, NONE, 3);
        x.roll(1, 1, 7, 1);
        x.roll(1, 15, 7, 1);
        Check.refused(x, "24: a rollout for what changes", Check.STATE, () -> x.rollback(1, 1));
        x.advance(1, 1, 99, 1);
        Check.refused(x, "24: far advanced", Check.STATE, () -> x.rollback(1, 1));
        Check.due("24: a rollout for what stays", x.rollback(4, 1), 0);
        x.abort(1, 1, 1);
        Check.due("24: a rollout beside what changes", x.rollback(1, 1), 1);
        Check.due("24: it goes on", x.shareOf(1, 15), 0);
    }

    private static void promise24EveryEntry() {
        ConfigBeacon x = new ConfigBeacon();
        for (int layer = 0; layer < 8; layer++) {
            x.layer(layer, 0, 0);
            for (int setting = 0; setting < 16; setting++) {
                x.set(layer, setting, layer * setting, 1);
            }
        }
        Check.due("24: all of them are taken out", x.rollback(0, 1), 128);
        Check.due("24: all of them come back", x.rollback(128, 1), 128);
        Check.due("24: half of them", x.rollback(64, 1), 64);
        Check.due("24: the last layer", x.has(7, 15), false);
        Check.due("24: the versions", x.version(), 131);
    }

    public static void main(String[] args) {
        promise22Version();
        promise23ChangedAt();
        promise24Rollback();
        promise24RollbackRefused();
        promise24EveryEntry();
        Check.end("VersionsTest");
    }
}
