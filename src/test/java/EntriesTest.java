/** Promises 10 to 13. */
final class EntriesTest {
    /** Two clients, two layers for everyone; owner 2 has locked 0/3, owner 3 layer 1; a rollout for 0/4. */
    private static ConfigBeacon service() {
        ConfigBeacon x = new ConfigBeacon();
        x.client(0, 0);
        x.client(1, 1);
        x.layer(10, 0, 0);
        x.layer(20, 0, 0);
        x.lock(0, 3, 2);
        x.lock(1, ConfigBeacon.NONE, 3);
        x.roll(0, 4, 1, 1);
        return x;
    }

    private static void promise10Set() {
        ConfigBeacon x = service();
        Check.due("10: the first version", x.set(0, 0, -9999, 1), 1);
        Check.due("10: the next one", x.set(0, 15, 9999, 9), 2);
        Check.due("10: the same constant", x.set(0, 0, -9999, 2), 2);
        Check.due("10: another constant", x.set(0, 0, -9998, 2), 3);
        Check.due("10: its value", x.value(0, 0), -9998L);
        Check.due("10: the other's value", x.value(1, 15), 9999L);
        Check.due("10: a template comes", x.template(0, 0, 0, 15, ConfigBeacon.NONE, 1), 4);
        Check.due("10: a constant with the template's base", x.set(0, 0, 0, 1), 5);
        Check.due("10: it is a constant", x.value(0, 0), 0L);
        Check.due("10: one's own lock", x.set(0, 3, 7, 2), 6);
        Check.due("10: one's own layer", x.set(1, 0, 7, 3), 7);
        Check.refused(x, "10: layer -1", Check.INDEX, () -> x.set(-1, 0, 0, 1));
        Check.refused(x, "10: layer 2 of 2", Check.INDEX, () -> x.set(2, 0, 0, 1));
        Check.refused(x, "10: setting -1", Check.INDEX, () -> x.set(0, -1, 0, 1));
        Check.refused(x, "10: setting 16", Check.INDEX, () -> x.set(0, 16, 0, 1));
        Check.refused(x, "10: there goes ahead of range", Check.INDEX, () -> x.set(0, 16, 10000, 0));
        Check.refused(x, "10: value -10000", Check.ARGUMENT, () -> x.set(0, 0, -10000, 1));
        Check.refused(x, "10: value 10000", Check.ARGUMENT, () -> x.set(0, 0, 10000, 1));
        Check.refused(x, "10: owner 0", Check.ARGUMENT, () -> x.set(0, 0, 1, 0));
        Check.refused(x, "10: owner 10", Check.ARGUMENT, () -> x.set(0, 0, 1, 10));
        Check.refused(x, "10: range goes ahead of state", Check.ARGUMENT, () -> x.set(0, 3, 10000, 1));
        Check.refused(x, "10: a locked setting", Check.STATE, () -> x.set(0, 3, 1, 1));
        Check.refused(x, "10: a locked setting, the same constant", Check.STATE, () -> x.set(0, 3, 7, 1));
        Check.refused(x, "10: a locked layer", Check.STATE, () -> x.set(1, 0, 1, 1));
        Check.refused(x, "10: a rollout", Check.STATE, () -> x.set(0, 4, 1, 1));
    }

    private static void promise11Template() {
        int none = ConfigBeacon.NONE;
        ConfigBeacon x = service();
        x.set(0, 1, 5, 1);
        x.set(0, 2, 7, 1);
        Check.due("11: two settings", x.template(0, 0, 100, 1, 2, 1), 3);
        Check.due("11: their sum", x.value(0, 0), 112L);
        Check.due("11: the same template", x.template(0, 0, 100, 1, 2, 9), 3);
        Check.due("11: another order", x.template(0, 0, 100, 2, 1, 1), 4);
        Check.due("11: another base", x.template(0, 0, -9999, 2, 1, 1), 5);
        Check.due("11: one setting", x.template(0, 0, -9999, 2, none, 1), 6);
        Check.due("11: one setting's value", x.value(1, 0), -9992L);
        Check.due("11: one setting, the same", x.template(0, 0, -9999, 2, none, 1), 6);
        Check.due("11: another first one", x.template(0, 0, -9999, 1, none, 1), 7);
        Check.due("11: the same one twice", x.template(0, 0, 9999, 1, 1, 1), 8);
        Check.due("11: twice its value", x.value(1, 0), 10009L);
        Check.due("11: in the place of a constant", x.template(0, 1, 5, 0, 0, 1), 9);
        Check.due("11: over itself", x.template(0, 15, 0, 15, 15, 1), 10);
        Check.due("11: itself", x.status(0, 15), ConfigBeacon.CYCLE);
        Check.due("11: one's own lock", x.template(0, 3, 0, 2, 0, 2), 11);
        Check.due("11: one's own layer", x.template(1, 3, 0, 2, 0, 3), 12);
        Check.refused(x, "11: layer -1", Check.INDEX, () -> x.template(-1, 0, 0, 1, none, 1));
        Check.refused(x, "11: layer 2 of 2", Check.INDEX, () -> x.template(2, 0, 0, 1, none, 1));
        Check.refused(x, "11: setting -1", Check.INDEX, () -> x.template(0, -1, 0, 1, none, 1));
        Check.refused(x, "11: setting 16", Check.INDEX, () -> x.template(0, 16, 0, 1, none, 1));
        Check.refused(x, "11: there goes ahead of range", Check.INDEX, () -> x.template(0, 16, 0, 16, none, 1));
        Check.refused(x, "11: base -10000", Check.ARGUMENT, () -> x.template(0, 0, -10000, 1, none, 1));
        Check.refused(x, "11: base 10000", Check.ARGUMENT, () -> x.template(0, 0, 10000, 1, none, 1));
        Check.refused(x, "11: first -1", Check.ARGUMENT, () -> x.template(0, 0, 0, none, none, 1));
        Check.refused(x, "11: first 16", Check.ARGUMENT, () -> x.template(0, 0, 0, 16, none, 1));
        Check.refused(x, "11: second -2", Check.ARGUMENT, () -> x.template(0, 0, 0, 1, -2, 1));
        Check.refused(x, "11: second 16", Check.ARGUMENT, () -> x.template(0, 0, 0, 1, 16, 1));
        Check.refused(x, "11: owner 0", Check.ARGUMENT, () -> x.template(0, 0, 0, 1, 2, 0));
        Check.refused(x, "11: owner 10", Check.ARGUMENT, () -> x.template(0, 0, 0, 1, 2, 10));
        Check.refused(x, "11: range goes ahead of state", Check.ARGUMENT, () -> x.template(0, 3, 0, 16, 2, 1));
        Check.refused(x, "11: a locked setting", Check.STATE, () -> x.template(0, 3, 0, 1, 2, 1));
        Check.refused(x, "11: a locked layer", Check.STATE, () -> x.template(1, 0, 0, 1, 2, 1));
        Check.refused(x, "11: a rollout", Check.STATE, () -> x.template(0, 4, 0, 1, 2, 1));
    }

    private static void promise12Remove() {
        ConfigBeacon x = service();
        x.set(0, 0, 5, 1);
        x.set(0, 3, 5, 2);
        x.set(1, 0, 6, 3);
        x.abort(0, 4, 1);
        x.set(0, 4, 5, 1);
        x.roll(0, 4, 6, 1);
        Check.due("12: the next version", x.remove(0, 0, 9), 5);
        Check.due("12: no entry any more", x.has(0, 0), false);
        Check.due("12: the other layer's stays", x.has(1, 0), true);
        Check.due("12: one's own lock", x.remove(0, 3, 2), 6);
        x.set(0, 3, 5, 2);
        Check.refused(x, "12: layer -1", Check.INDEX, () -> x.remove(-1, 0, 1));
        Check.refused(x, "12: layer 2 of 2", Check.INDEX, () -> x.remove(2, 0, 1));
        Check.refused(x, "12: setting -1", Check.INDEX, () -> x.remove(0, -1, 1));
        Check.refused(x, "12: setting 16", Check.INDEX, () -> x.remove(0, 16, 1));
        Check.refused(x, "12: there goes ahead of range", Check.INDEX, () -> x.remove(2, 0, 0));
        Check.refused(x, "12: owner 0", Check.ARGUMENT, () -> x.remove(0, 4, 0));
        Check.refused(x, "12: owner 10", Check.ARGUMENT, () -> x.remove(0, 4, 10));
        Check.refused(x, "12: range goes ahead of state", Check.ARGUMENT, () -> x.remove(0, 5, 0));
        Check.refused(x, "12: a locked setting", Check.STATE, () -> x.remove(0, 3, 1));
        Check.refused(x, "12: a locked layer", Check.STATE, () -> x.remove(1, 0, 1));
        Check.refused(x, "12: a rollout", Check.STATE, () -> x.remove(0, 4, 1));
        Check.refused(x, "12: no entry", Check.STATE, () -> x.remove(0, 0, 1));
        Check.refused(x, "12: never an entry", Check.STATE, () -> x.remove(0, 7, 1));
    }

    private static void promise13Has() {
        ConfigBeacon x = service();
        x.set(0, 0, 0, 1);
        x.template(0, 15, 0, 1, 1, 1);
        x.advance(0, 4, 99, 1);
        Check.due("13: a constant", x.has(0, 0), true);
        Check.due("13: a template", x.has(0, 15), true);
        Check.due("13: a rollout alone", x.has(0, 4), false);
        Check.due("13: another layer", x.has(1, 0), false);
        Check.due("13: another setting", x.has(0, 1), false);
        x.advance(0, 4, 100, 1);
        Check.due("13: a rollout that is over", x.has(0, 4), true);
        Check.refused(x, "13: layer -1", Check.INDEX, () -> x.has(-1, 0));
        Check.refused(x, "13: layer 2 of 2", Check.INDEX, () -> x.has(2, 0));
        Check.refused(x, "13: setting -1", Check.INDEX, () -> x.has(0, -1));
        Check.refused(x, "13: setting 16", Check.INDEX, () -> x.has(0, 16));
    }

    public static void main(String[] args) {
        promise10Set();
        promise11Template();
        promise12Remove();
        promise13Has();
        Check.end("EntriesTest");
    }
}
