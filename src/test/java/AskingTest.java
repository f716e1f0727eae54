/** Promises 25 to 34. */
final class AskingTest {
    private static final int NONE = ConfigBeacon.NONE;
    private static final int FOUND = ConfigBeacon.FOUND;
    private static final int MISSING = ConfigBeacon.MISSING;
    private static final int CYCLE = ConfigBeacon.CYCLE;

    /**
     * Two clients, in the regions 0 and 1; layer 0 for everyone, layer 1 for region 1 goes first.
     * Constants: 0 is 5 (7 for client 1), 1 is 10. Templates: 2 over 0 and 1, 3 over 2 twice, 4 over 9,
     * 5 over 0 and 6, 6 over 1 and 5, 7 over itself, 8 over 4 and 7, 10 over 2 and 4, 11 over 7 and 4.
     * Without entries: 9 and 12 to 15.
     */
    private static ConfigBeacon service() {
        ConfigBeacon x = new ConfigBeacon();
        x.client(0, 0);
        x.client(1, 0);
        x.layer(10, 0, 0);
        x.layer(20, ConfigBeacon.REGION, 1);
        x.set(0, 0, 5, 1);
        x.set(0, 1, 10, 1);
        x.set(1, 0, 7, 1);
        x.template(0, 2, 100, 0, 1, 1);
        x.template(0, 3, -1000, 2, 2, 1);
        x.template(0, 4, 0, 9, NONE, 1);
        x.template(0, 5, 0, 0, 6, 1);
        x.template(0, 6, 0, 1, 5, 1);
        x.template(0, 7, 0, 7, NONE, 1);
        x.template(0, 8, 0, 4, 7, 1);
        x.template(0, 10, 0, 2, 4, 1);
        x.template(0, 11, 0, 7, 4, 1);
        return x;
    }

    private static final int[] STATUS = {
        FOUND, FOUND, FOUND, FOUND, MISSING, CYCLE, CYCLE, CYCLE, MISSING, MISSING, MISSING, CYCLE,
        MISSING, MISSING, MISSING, MISSING
    };

    private static void promise25Value() {
        ConfigBeacon x = service();
        long[][] due = {{5, 10, 115, -770}, {7, 10, 117, -766}};
        for (int client = 0; client < 2; client++) {
            for (int setting = 0; setting < 4; setting++) {
                Check.due("25: " + client + ", " + setting, x.value(client, setting), due[client][setting]);
            }
        }
        for (int k = 4; k < 16; k++) {
            int setting = k;
            Check.refused(x, "25: it fails, " + k, Check.STATE, () -> x.value(0, setting));
        }
        Check.refused(x, "25: client -1", Check.INDEX, () -> x.value(-1, 0));
        Check.refused(x, "25: client 2 of 2", Check.INDEX, () -> x.value(2, 0));
        Check.refused(x, "25: setting -1", Check.INDEX, () -> x.value(0, -1));
        Check.refused(x, "25: setting 16", Check.INDEX, () -> x.value(0, 16));
        Check.refused(x, "25: there goes ahead of state", Check.INDEX, () -> x.value(2, 4));
        x.move(0, 1, 0);
        Check.due("25: a client that moved", x.value(0, 3), -766L);
        x.rank(0, 20);
        Check.due("25: the same precedence, the greater number", x.value(0, 0), 7L);
        x.rank(0, 21);
        Check.due("25: the greater precedence", x.value(0, 0), 5L);
    }

    private static void promise25GreatValue() {
        ConfigBeacon x = new ConfigBeacon();
        x.client(0, 0);
        x.layer(0, 0, 0);
        x.set(0, 15, 9999, 1);
        for (int setting = 0; setting < 15; setting++) {
            x.template(0, setting, 9999, setting + 1, setting + 1, 1);
        }
        Check.due("25: sixteen deep", x.value(0, 0), 9999L * 65535);
        Check.due("30: sixteen deep", x.uses(0, 0), 65535);
        x.template(0, 15, 0, 0, NONE, 1);
        Check.due("26: a ring of sixteen", x.status(0, 3), CYCLE);
        Check.due("27: a ring of sixteen", x.culprit(0, 3), 3);
    }

    private static void promise26Status() {
        ConfigBeacon x = service();
        for (int setting = 0; setting < 16; setting++) {
            Check.due("26: " + setting, x.status(0, setting), STATUS[setting]);
        }
        Check.refused(x, "26: client -1", Check.INDEX, () -> x.status(-1, 0));
        Check.refused(x, "26: client 2 of 2", Check.INDEX, () -> x.status(2, 0));
        Check.refused(x, "26: setting -1", Check.INDEX, () -> x.status(0, -1));
        Check.refused(x, "26: setting 16", Check.INDEX, () -> x.status(0, 16));
        x.set(1, 9, 1, 1);
        Check.due("26: a layer that does not apply", x.status(0, 4), MISSING);
        Check.due("26: a layer that applies", x.status(1, 4), FOUND);
        Check.due("26: the second one fails", x.status(1, 8), CYCLE);
    }

    private static void promise27Culprit() {
        ConfigBeacon x = service();
        int[] due = {NONE, NONE, NONE, NONE, 9, 5, 6, 7, 9, 9, 9, 7, 12, 13, 14, 15};
        for (int setting = 0; setting < 16; setting++) {
            Check.due("27: " + setting, x.culprit(0, setting), due[setting]);
        }
        x.template(0, 15, 0, 5, NONE, 1);
        Check.due("27: a ring that the asked one is not in", x.culprit(0, 15), 5);
        Check.refused(x, "27: client -1", Check.INDEX, () -> x.culprit(-1, 0));
        Check.refused(x, "27: client 2 of 2", Check.INDEX, () -> x.culprit(2, 0));
        Check.refused(x, "27: setting -1", Check.INDEX, () -> x.culprit(0, -1));
        Check.refused(x, "27: setting 16", Check.INDEX, () -> x.culprit(0, 16));
    }

    private static void promise28LayerOf() {
        ConfigBeacon x = service();
        Check.due("28: the only one that applies", x.layerOf(0, 0), 0);
        Check.due("28: the first of two", x.layerOf(1, 0), 1);
        Check.due("28: the only one with an entry", x.layerOf(1, 1), 0);
        Check.due("28: none", x.layerOf(1, 9), NONE);
        Check.due("28: a value that fails", x.layerOf(1, 7), 0);
        x.rank(0, 20);
        Check.due("28: of the same precedence", x.layerOf(1, 0), 1);
        x.rank(0, 21);
        Check.due("28: of a greater one", x.layerOf(1, 0), 0);
        x.roll(1, 9, 1, 1);
        Check.due("28: a rollout with the share 0", x.layerOf(1, 9), NONE);
        x.advance(1, 9, 91, 1);
        Check.due("28: a rollout whose share is the client's bucket", x.layerOf(1, 9), NONE);
        x.advance(1, 9, 92, 1);
        Check.due("28: a rollout that shows it", x.layerOf(1, 9), 1);
        Check.due("28: a rollout of a layer that does not apply", x.layerOf(0, 9), NONE);
        Check.refused(x, "28: client -1", Check.INDEX, () -> x.layerOf(-1, 0));
        Check.refused(x, "28: client 2 of 2", Check.INDEX, () -> x.layerOf(2, 0));
        Check.refused(x, "28: setting -1", Check.INDEX, () -> x.layerOf(0, -1));
        Check.refused(x, "28: setting 16", Check.INDEX, () -> x.layerOf(0, 16));
    }

    /** The bucket of client 1 for the setting 0 is 31 in layer 0 and 38 in layer 1. */
    private static void promise29IsNew() {
        ConfigBeacon x = service();
        Check.due("29: no deciding layer", x.isNew(1, 9), false);
        Check.due("29: no rollout", x.isNew(1, 0), false);
        x.roll(1, 0, 8, 1);
        x.advance(1, 0, 38, 1);
        Check.due("29: the bucket is not below the share", x.isNew(1, 0), false);
        x.advance(1, 0, 39, 1);
        Check.due("29: the bucket is below the share", x.isNew(1, 0), true);
        Check.due("29: the layer does not apply", x.isNew(0, 0), false);
        Check.due("29: the template over it is not new itself", x.isNew(1, 2), false);
        x.rank(0, 30);
        Check.due("29: another layer decides", x.isNew(1, 0), false);
        x.roll(0, 0, 5, 1);
        x.advance(0, 0, 32, 1);
        Check.due("29: the same entry is new all the same", x.isNew(1, 0), true);
        x.advance(0, 0, 100, 1);
        Check.due("29: the rollout is over", x.isNew(1, 0), false);
        Check.refused(x, "29: client -1", Check.INDEX, () -> x.isNew(-1, 0));
        Check.refused(x, "29: client 2 of 2", Check.INDEX, () -> x.isNew(2, 0));
        Check.refused(x, "29: setting -1", Check.INDEX, () -> x.isNew(0, -1));
        Check.refused(x, "29: setting 16", Check.INDEX, () -> x.isNew(0, 16));
    }

    private static void promise30Uses() {
        ConfigBeacon x = service();
        int[] due = {
            1, 2, 7, 15, 1 << 4 | 1 << 9, 1 << 0 | 1 << 1 | 1 << 5 | 1 << 6, 1 << 0 | 1 << 1 | 1 << 5 | 1 << 6,
            1 << 7, 1 << 4 | 1 << 8 | 1 << 9, 1 << 9, 7 | 1 << 4 | 1 << 9 | 1 << 10, 1 << 7 | 1 << 11,
            1 << 12, 1 << 13, 1 << 14, 1 << 15
        };
        for (int setting = 0; setting < 16; setting++) {
            Check.due("30: " + setting, x.uses(0, setting), due[setting]);
        }
        Check.refused(x, "30: client -1", Check.INDEX, () -> x.uses(-1, 0));
        Check.refused(x, "30: client 2 of 2", Check.INDEX, () -> x.uses(2, 0));
        Check.refused(x, "30: setting -1", Check.INDEX, () -> x.uses(0, -1));
        Check.refused(x, "30: setting 16", Check.INDEX, () -> x.uses(0, 16));
    }

    private static void promise31Found() {
        ConfigBeacon x = service();
        Check.due("31: the values that are found", x.found(0), 15);
        x.set(1, 15, 0, 1);
        Check.due("31: the other client's", x.found(1), 15 | 1 << 15);
        Check.due("31: only its own", x.found(0), 15);
        x.remove(0, 0, 1);
        Check.due("31: one whose setting 0 is missing", x.found(0), 2);
        Check.refused(x, "31: client -1", Check.INDEX, () -> x.found(-1));
        Check.refused(x, "31: client 2 of 2", Check.INDEX, () -> x.found(2));
    }

    private static void promise32Differ() {
        ConfigBeacon x = service();
        Check.due("32: other values", x.differ(0, 1), 1 << 0 | 1 << 2 | 1 << 3);
        Check.due("32: the other way round", x.differ(1, 0), 1 << 0 | 1 << 2 | 1 << 3);
        Check.due("32: with itself", x.differ(1, 1), 0);
        x.set(1, 15, 0, 1);
        Check.due("32: found for just one", x.differ(0, 1), 1 << 0 | 1 << 2 | 1 << 3 | 1 << 15);
        x.template(1, 9, 0, 9, NONE, 1);
        Check.due("32: both fail, each in its own way", x.differ(0, 1), 1 << 0 | 1 << 2 | 1 << 3 | 1 << 15);
        x.template(1, 0, -5, 1, NONE, 1);
        Check.due("32: the same value from another layer", x.differ(0, 1), 1 << 15);
        Check.refused(x, "32: client -1", Check.INDEX, () -> x.differ(-1, 0));
        Check.refused(x, "32: client 2 of 2", Check.INDEX, () -> x.differ(2, 0));
        Check.refused(x, "32: other -1", Check.INDEX, () -> x.differ(0, -1));
        Check.refused(x, "32: other 2 of 2", Check.INDEX, () -> x.differ(0, 2));
    }

    private static void promise33StatusAt() {
        ConfigBeacon x = service();
        Check.due("33: version 0", x.statusAt(0, 0, 0), MISSING);
        Check.due("33: version 1", x.statusAt(1, 0, 0), FOUND);
        Check.due("33: a template before what it needs", x.statusAt(6, 0, 4), MISSING);
        Check.due("33: half a ring", x.statusAt(7, 0, 5), MISSING);
        Check.due("33: a whole ring", x.statusAt(8, 0, 5), CYCLE);
        for (int setting = 0; setting < 16; setting++) {
            Check.due("33: now, " + setting, x.statusAt(12, 1, setting), STATUS[setting]);
        }
        x.roll(0, 9, 1, 1);
        x.advance(0, 9, 99, 1);
        Check.due("33: with the rollout", x.status(0, 4), FOUND);
        Check.due("33: without rollouts", x.statusAt(12, 0, 4), MISSING);
        x.layer(99, 0, 0);
        Check.due("33: a layer that came later", x.statusAt(12, 0, 0), FOUND);
        x.rollback(0, 1);
        Check.due("33: after the rollback", x.statusAt(13, 0, 0), MISSING);
        Check.due("33: before it", x.statusAt(12, 0, 0), FOUND);
        Check.refused(x, "33: version -1", Check.INDEX, () -> x.statusAt(-1, 0, 0));
        Check.refused(x, "33: version 14 of 13", Check.INDEX, () -> x.statusAt(14, 0, 0));
        Check.refused(x, "33: client -1", Check.INDEX, () -> x.statusAt(1, -1, 0));
        Check.refused(x, "33: client 2 of 2", Check.INDEX, () -> x.statusAt(1, 2, 0));
        Check.refused(x, "33: setting -1", Check.INDEX, () -> x.statusAt(1, 0, -1));
        Check.refused(x, "33: setting 16", Check.INDEX, () -> x.statusAt(1, 0, 16));
    }

    private static void promise34ValueAt() {
        ConfigBeacon x = service();
        x.set(0, 0, 6, 1);
        Check.due("34: version 1", x.valueAt(1, 1, 0), 5L);
        Check.due("34: version 3", x.valueAt(3, 1, 0), 7L);
        Check.due("34: a template then", x.valueAt(12, 0, 3), -770L);
        Check.due("34: a template now", x.valueAt(13, 0, 3), -768L);
        x.move(0, 1, 0);
        Check.due("34: clients as they are now", x.valueAt(12, 0, 0), 7L);
        x.rank(0, 21);
        Check.due("34: layers as they are now", x.valueAt(12, 0, 0), 5L);
        x.roll(0, 0, 9, 1);
        x.advance(0, 0, 99, 1);
        Check.due("34: with the rollout", x.value(0, 0), 9L);
        Check.due("34: without rollouts", x.valueAt(13, 0, 0), 6L);
        x.remove(0, 1, 1);
        Check.due("34: an entry that is taken out", x.valueAt(13, 0, 1), 10L);
        Check.refused(x, "34: where it is", Check.STATE, () -> x.valueAt(14, 0, 1));
        Check.refused(x, "34: missing then", Check.STATE, () -> x.valueAt(0, 0, 0));
        Check.refused(x, "34: a cycle then", Check.STATE, () -> x.valueAt(9, 0, 7));
        Check.refused(x, "34: version -1", Check.INDEX, () -> x.valueAt(-1, 0, 0));
        Check.refused(x, "34: version 15 of 14", Check.INDEX, () -> x.valueAt(15, 0, 0));
        Check.refused(x, "34: client -1", Check.INDEX, () -> x.valueAt(1, -1, 0));
        Check.refused(x, "34: client 2 of 2", Check.INDEX, () -> x.valueAt(1, 2, 0));
        Check.refused(x, "34: setting -1", Check.INDEX, () -> x.valueAt(1, 0, -1));
        Check.refused(x, "34: setting 16", Check.INDEX, () -> x.valueAt(1, 0, 16));
        Check.refused(x, "34: there goes ahead of state", Check.INDEX, () -> x.valueAt(0, 0, 16));
    }

    public static void main(String[] args) {
        promise25Value();
        promise25GreatValue();
        promise26Status();
        promise27Culprit();
        promise28LayerOf();
        promise29IsNew();
        promise30Uses();
        promise31Found();
        promise32Differ();
        promise33StatusAt();
        promise34ValueAt();
        Check.end("AskingTest");
    }
}
