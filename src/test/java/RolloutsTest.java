/** Promises 14 to 18. */
final class RolloutsTest {
    /** Twelve clients; layer 0 for everyone, layer 1 for region 1, that of the clients with odd numbers. */
    private static ConfigBeacon service() {
        ConfigBeacon x = new ConfigBeacon();
        for (int k = 0; k < 12; k++) {
            x.client(k % 2, 0);
        }
        x.layer(10, 0, 0);
        x.layer(20, ConfigBeacon.REGION, 1);
        return x;
    }

    private static void promise14Roll() {
        ConfigBeacon x = service();
        x.set(0, 0, 1, 1);
        x.roll(0, 0, -9999, 1);
        x.roll(0, 1, 9999, 9);
        Check.due("14: the share", x.shareOf(0, 0), 0);
        Check.due("14: the version stays", x.version(), 1);
        Check.due("14: it shows nobody the new entry, not even bucket 0", x.value(0, 0), 1L);
        Check.due("14: bucket 0 is not new", x.isNew(0, 0), false);
        Check.due("14: nor a new one where there was none", x.status(0, 1), ConfigBeacon.MISSING);
        x.advance(0, 0, 1, 1);
        x.advance(0, 1, 100, 1);
        Check.due("14: the constant", x.value(0, 0), -9999L);
        Check.due("14: the other constant", x.value(0, 1), 9999L);
        x.roll(0, 1, 9999, 1);
        Check.due("14: the same entry can be rolled out", x.shareOf(0, 1), 0);
        x.lock(0, 3, 2);
        x.lock(1, ConfigBeacon.NONE, 3);
        x.roll(0, 3, 1, 2);
        x.abort(0, 3, 2);
        Check.refused(x, "14: layer -1", Check.INDEX, () -> x.roll(-1, 2, 0, 1));
        Check.refused(x, "14: layer 2 of 2", Check.INDEX, () -> x.roll(2, 2, 0, 1));
        Check.refused(x, "14: setting -1", Check.INDEX, () -> x.roll(0, -1, 0, 1));
        Check.refused(x, "14: setting 16", Check.INDEX, () -> x.roll(0, 16, 0, 1));
        Check.refused(x, "14: there goes ahead of range", Check.INDEX, () -> x.roll(0, 16, 10000, 1));
        Check.refused(x, "14: value -10000", Check.ARGUMENT, () -> x.roll(0, 2, -10000, 1));
        Check.refused(x, "14: value 10000", Check.ARGUMENT, () -> x.roll(0, 2, 10000, 1));
        Check.refused(x, "14: owner 0", Check.ARGUMENT, () -> x.roll(0, 2, 0, 0));
        Check.refused(x, "14: owner 10", Check.ARGUMENT, () -> x.roll(0, 2, 0, 10));
        Check.refused(x, "14: range goes ahead of state", Check.ARGUMENT, () -> x.roll(0, 0, 10000, 1));
        Check.refused(x, "14: a locked setting", Check.STATE, () -> x.roll(0, 3, 0, 1));
        Check.refused(x, "14: a locked layer", Check.STATE, () -> x.roll(1, 3, 0, 1));
        Check.refused(x, "14: a rollout", Check.STATE, () -> x.roll(0, 0, 0, 1));
    }

    private static void promise15RollTemplate() {
        int none = ConfigBeacon.NONE;
        ConfigBeacon x = service();
        x.set(0, 0, 5, 1);
        x.set(0, 15, 7, 1);
        x.rollTemplate(0, 1, 100, 0, 15, 1);
        Check.due("15: the share", x.shareOf(0, 1), 0);
        Check.due("15: the version stays", x.version(), 2);
        Check.due("15: nobody is shown it", x.status(0, 1), ConfigBeacon.MISSING);
        x.advance(0, 1, 99, 1);
        Check.due("15: two settings", x.value(0, 1), 112L);
        x.rollTemplate(0, 2, -9999, 15, none, 9);
        x.advance(0, 2, 100, 9);
        Check.due("15: one setting", x.value(11, 2), -9992L);
        x.rollTemplate(0, 5, 9999, 5, none, 9);
        x.lock(0, 3, 2);
        x.lock(1, none, 3);
        Check.refused(x, "15: layer -1", Check.INDEX, () -> x.rollTemplate(-1, 4, 0, 1, none, 1));
        Check.refused(x, "15: layer 2 of 2", Check.INDEX, () -> x.rollTemplate(2, 4, 0, 1, none, 1));
        Check.refused(x, "15: setting -1", Check.INDEX, () -> x.rollTemplate(0, -1, 0, 1, none, 1));
        Check.refused(x, "15: setting 16", Check.INDEX, () -> x.rollTemplate(0, 16, 0, 1, none, 1));
        Check.refused(x, "15: there goes ahead of range", Check.INDEX, () -> x.rollTemplate(0, 16, 0, 16, none, 1));
        Check.refused(x, "15: base -10000", Check.ARGUMENT, () -> x.rollTemplate(0, 4, -10000, 1, none, 1));
        Check.refused(x, "15: base 10000", Check.ARGUMENT, () -> x.rollTemplate(0, 4, 10000, 1, none, 1));
        Check.refused(x, "15: first -1", Check.ARGUMENT, () -> x.rollTemplate(0, 4, 0, none, none, 1));
        Check.refused(x, "15: first 16", Check.ARGUMENT, () -> x.rollTemplate(0, 4, 0, 16, none, 1));
        Check.refused(x, "15: second -2", Check.ARGUMENT, () -> x.rollTemplate(0, 4, 0, 1, -2, 1));
        Check.refused(x, "15: second 16", Check.ARGUMENT, () -> x.rollTemplate(0, 4, 0, 1, 16, 1));
        Check.refused(x, "15: owner 0", Check.ARGUMENT, () -> x.rollTemplate(0, 4, 0, 1, 2, 0));
        Check.refused(x, "15: owner 10", Check.ARGUMENT, () -> x.rollTemplate(0, 4, 0, 1, 2, 10));
        Check.refused(x, "15: range goes ahead of state", Check.ARGUMENT, () -> x.rollTemplate(0, 1, 0, 1, 2, 0));
        Check.refused(x, "15: a locked setting", Check.STATE, () -> x.rollTemplate(0, 3, 0, 1, 2, 1));
        Check.refused(x, "15: a locked layer", Check.STATE, () -> x.rollTemplate(1, 3, 0, 1, 2, 1));
        Check.refused(x, "15: a rollout", Check.STATE, () -> x.rollTemplate(0, 1, 0, 1, 2, 1));
    }

    /** The buckets of layer 1, setting 2 for the clients 1, 3 .. 11: 72, 34, 96, 58, 20, 82. */
    private static void promise16Advance() {
        ConfigBeacon x = service();
        x.set(1, 2, 1, 1);
        x.roll(1, 2, 2, 1);
        Check.due("16: below all buckets", x.advance(1, 2, 20, 9), 0);
        Check.due("16: the smallest bucket", x.advance(1, 2, 21, 1), 1);
        Check.due("16: client 9 is new", x.value(9, 2), 2L);
        Check.due("16: client 3 is not", x.value(3, 2), 1L);
        Check.due("16: four of them", x.advance(1, 2, 73, 1), 4);
        Check.due("16: all but bucket 96", x.advance(1, 2, 96, 1), 5);
        Check.due("16: all below 100", x.advance(1, 2, 99, 1), 6);
        Check.due("16: no version", x.version(), 1);
        Check.due("16: the share", x.shareOf(1, 2), 99);
        Check.refused(x, "16: the same share", Check.STATE, () -> x.advance(1, 2, 99, 1));
        Check.refused(x, "16: a smaller share", Check.STATE, () -> x.advance(1, 2, 98, 1));
        Check.due("16: all to whom the layer applies", x.advance(1, 2, 100, 1), 6);
        Check.due("16: the next version", x.version(), 2);
        Check.due("16: the entry changed", x.changedAt(1, 2), 2);
        Check.due("16: the rollout is over", x.shareOf(1, 2), ConfigBeacon.NONE);
        x.roll(1, 2, 2, 1);
        Check.due("16: the same entry, all clients", x.advance(1, 2, 100, 1), 6);
        Check.due("16: the same entry makes no version", x.version(), 2);
        x.roll(0, 0, 5, 1);
        Check.due("16: everyone", x.advance(0, 0, 100, 1), 12);
        x.roll(0, 0, 6, 1);
        x.lock(0, 0, 2);
        x.lock(1, ConfigBeacon.NONE, 3);
        Check.refused(x, "16: layer -1", Check.INDEX, () -> x.advance(-1, 0, 5, 2));
        Check.refused(x, "16: layer 2 of 2", Check.INDEX, () -> x.advance(2, 0, 5, 2));
        Check.refused(x, "16: setting -1", Check.INDEX, () -> x.advance(0, -1, 5, 2));
        Check.refused(x, "16: setting 16", Check.INDEX, () -> x.advance(0, 16, 5, 2));
        Check.refused(x, "16: there goes ahead of range", Check.INDEX, () -> x.advance(0, 16, 0, 2));
        Check.refused(x, "16: share 0", Check.ARGUMENT, () -> x.advance(0, 0, 0, 2));
        Check.refused(x, "16: share 101", Check.ARGUMENT, () -> x.advance(0, 0, 101, 2));
        Check.refused(x, "16: owner 0", Check.ARGUMENT, () -> x.advance(0, 0, 5, 0));
        Check.refused(x, "16: owner 10", Check.ARGUMENT, () -> x.advance(0, 0, 5, 10));
        Check.refused(x, "16: range goes ahead of state", Check.ARGUMENT, () -> x.advance(0, 1, 0, 2));
        Check.refused(x, "16: a locked setting", Check.STATE, () -> x.advance(0, 0, 5, 1));
        x.unlock(0, 0, 2);
        x.lock(0, ConfigBeacon.NONE, 3);
        Check.refused(x, "16: a locked layer", Check.STATE, () -> x.advance(0, 0, 5, 2));
        Check.refused(x, "16: no rollout", Check.STATE, () -> x.advance(0, 1, 5, 3));
        Check.due("16: one's own layer", x.advance(0, 0, 1, 3), 1);
    }

    private static void promise17Abort() {
        ConfigBeacon x = service();
        x.set(0, 0, 1, 1);
        x.roll(0, 0, 2, 1);
        Check.due("17: the share 0", x.abort(0, 0, 9), 0);
        Check.due("17: no rollout any more", x.shareOf(0, 0), ConfigBeacon.NONE);
        x.roll(0, 0, 2, 1);
        x.advance(0, 0, 99, 1);
        Check.due("17: the share 99", x.abort(0, 0, 1), 99);
        Check.due("17: the own entry stays", x.value(0, 0), 1L);
        Check.due("17: the version stays", x.version(), 1);
        x.roll(0, 0, 3, 1);
        Check.due("17: the next rollout begins anew", x.shareOf(0, 0), 0);
        x.lock(0, 0, 2);
        Check.refused(x, "17: layer -1", Check.INDEX, () -> x.abort(-1, 0, 2));
        Check.refused(x, "17: layer 2 of 2", Check.INDEX, () -> x.abort(2, 0, 2));
        Check.refused(x, "17: setting -1", Check.INDEX, () -> x.abort(0, -1, 2));
        Check.refused(x, "17: setting 16", Check.INDEX, () -> x.abort(0, 16, 2));
        Check.refused(x, "17: there goes ahead of range", Check.INDEX, () -> x.abort(0, 16, 0));
        Check.refused(x, "17: owner 0", Check.ARGUMENT, () -> x.abort(0, 0, 0));
        Check.refused(x, "17: owner 10", Check.ARGUMENT, () -> x.abort(0, 0, 10));
        Check.refused(x, "17: range goes ahead of state", Check.ARGUMENT, () -> x.abort(0, 1, 0));
        Check.refused(x, "17: a locked setting", Check.STATE, () -> x.abort(0, 0, 1));
        Check.refused(x, "17: no rollout", Check.STATE, () -> x.abort(0, 1, 2));
        x.unlock(0, 0, 2);
        x.lock(0, ConfigBeacon.NONE, 3);
        Check.refused(x, "17: a locked layer", Check.STATE, () -> x.abort(0, 0, 2));
        Check.due("17: one's own layer", x.abort(0, 0, 3), 0);
    }

    private static void promise18ShareOf() {
        ConfigBeacon x = service();
        Check.due("18: no rollout", x.shareOf(1, 15), ConfigBeacon.NONE);
        x.roll(1, 15, 0, 1);
        Check.due("18: at first", x.shareOf(1, 15), 0);
        x.advance(1, 15, 1, 1);
        Check.due("18: after a wave", x.shareOf(1, 15), 1);
        Check.due("18: another setting", x.shareOf(1, 14), ConfigBeacon.NONE);
        Check.due("18: another layer", x.shareOf(0, 15), ConfigBeacon.NONE);
        x.advance(1, 15, 100, 1);
        Check.due("18: when it is over", x.shareOf(1, 15), ConfigBeacon.NONE);
        Check.refused(x, "18: layer -1", Check.INDEX, () -> x.shareOf(-1, 0));
        Check.refused(x, "18: layer 2 of 2", Check.INDEX, () -> x.shareOf(2, 0));
        Check.refused(x, "18: setting -1", Check.INDEX, () -> x.shareOf(0, -1));
        Check.refused(x, "18: setting 16", Check.INDEX, () -> x.shareOf(0, 16));
    }

    /** Every bucket there is: a client is shown the new entry when the share has gone past it. */
    private static void buckets() {
        for (int layer = 0; layer < 8; layer++) {
            ConfigBeacon x = new ConfigBeacon();
            for (int k = 0; k < 12; k++) {
                x.client(0, 0);
            }
            for (int k = 0; k <= layer; k++) {
                x.layer(0, 0, 0);
            }
            for (int setting = 0; setting < 16; setting++) {
                x.roll(layer, setting, 0, 1);
            }
            for (int share = 1; share < 100; share++) {
                for (int setting = 0; setting < 16; setting++) {
                    x.advance(layer, setting, share, 1);
                    for (int client = 0; client < 12; client++) {
                        boolean due = (31 * client + 17 * setting + 7 * layer) % 100 < share;
                        Check.due("bucket of " + client + ", " + setting + ", " + layer + " at " + share,
                                x.isNew(client, setting), due);
                    }
                }
            }
        }
    }

    public static void main(String[] args) {
        promise14Roll();
        promise15RollTemplate();
        promise16Advance();
        promise17Abort();
        promise18ShareOf();
        buckets();
        Check.end("RolloutsTest");
    }
}
