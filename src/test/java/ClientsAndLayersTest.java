/** Promises 1 to 9. */
final class ClientsAndLayersTest {
    private static void promise1NewObject() {
        ConfigBeacon x = new ConfigBeacon();
        Check.due("1: clients of a new object", x.clients(), 0);
        Check.due("1: layers of a new object", x.layers(), 0);
        Check.due("1: version of a new object", x.version(), 0);
        new ConfigBeacon().client(0, 0);
        Check.due("1: another object has its own clients", x.clients(), 0);
    }

    private static void promise2Client() {
        ConfigBeacon x = new ConfigBeacon();
        for (int k = 0; k < 12; k++) {
            Check.due("2: client " + k, x.client(k % 8, 7 - k % 8), k);
        }
        x.layer(0, ConfigBeacon.REGION, 7);
        x.layer(0, ConfigBeacon.GROUP, 7);
        Check.due("2: region 7", x.applies(0, 7), true);
        Check.due("2: region 6", x.applies(0, 6), false);
        Check.due("2: group 7", x.applies(1, 8), true);
        Check.due("2: group 0", x.applies(1, 7), false);
        Check.refused(x, "2: a client too many", Check.STATE, () -> x.client(0, 0));
        Check.refused(x, "2: range goes ahead of state", Check.ARGUMENT, () -> x.client(8, 0));
        ConfigBeacon y = new ConfigBeacon();
        Check.refused(y, "2: region -1", Check.ARGUMENT, () -> y.client(-1, 0));
        Check.refused(y, "2: region 8", Check.ARGUMENT, () -> y.client(8, 0));
        Check.refused(y, "2: group -1", Check.ARGUMENT, () -> y.client(0, -1));
        Check.refused(y, "2: group 8", Check.ARGUMENT, () -> y.client(0, 8));
        Check.due("2: the number after refusals", y.client(7, 7), 0);
    }

    private static void promise3Move() {
        ConfigBeacon x = new ConfigBeacon();
        x.client(0, 1);
        x.client(0, 1);
        x.layer(0, ConfigBeacon.REGION, 7);
        x.layer(0, ConfigBeacon.GROUP, 6);
        x.move(1, 7, 6);
        Check.due("3: its region", x.applies(0, 1), true);
        Check.due("3: its group", x.applies(1, 1), true);
        Check.due("3: another one's region", x.applies(0, 0), false);
        Check.due("3: another one's group", x.applies(1, 0), false);
        Check.refused(x, "3: client -1", Check.INDEX, () -> x.move(-1, 0, 0));
        Check.refused(x, "3: client 2 of 2", Check.INDEX, () -> x.move(2, 0, 0));
        Check.refused(x, "3: there goes ahead of range", Check.INDEX, () -> x.move(2, 8, 0));
        Check.refused(x, "3: region -1", Check.ARGUMENT, () -> x.move(1, -1, 0));
        Check.refused(x, "3: region 8", Check.ARGUMENT, () -> x.move(1, 8, 0));
        Check.refused(x, "3: group -1", Check.ARGUMENT, () -> x.move(1, 0, -1));
        Check.refused(x, "3: group 8", Check.ARGUMENT, () -> x.move(1, 0, 8));
        x.move(1, 0, 0);
        Check.due("3: moved back", x.applies(0, 1) || x.applies(1, 1), false);
    }

    private static void promise4Clients() {
        ConfigBeacon x = new ConfigBeacon();
        for (int k = 1; k <= 12; k++) {
            x.client(0, 0);
            Check.due("4: clients", x.clients(), k);
        }
    }

    private static void promise5Layer() {
        ConfigBeacon x = new ConfigBeacon();
        Check.due("5: everyone", x.layer(0, ConfigBeacon.EVERYONE, 0), 0);
        Check.due("5: region 7", x.layer(99, ConfigBeacon.REGION, 7), 1);
        Check.due("5: group 7", x.layer(5, ConfigBeacon.GROUP, 7), 2);
        Check.due("5: a client that is not there", x.layer(5, ConfigBeacon.CLIENT, 11), 3);
        Check.due("5: client 0", x.layer(5, ConfigBeacon.CLIENT, 0), 4);
        Check.due("5: region 0", x.layer(5, ConfigBeacon.REGION, 0), 5);
        Check.due("5: group 0", x.layer(5, ConfigBeacon.GROUP, 0), 6);
        for (int setting = 0; setting < 16; setting++) {
            Check.due("5: no entry for " + setting, x.has(0, setting), false);
        }
        Check.refused(x, "5: precedence -1", Check.ARGUMENT, () -> x.layer(-1, 0, 0));
        Check.refused(x, "5: precedence 100", Check.ARGUMENT, () -> x.layer(100, 0, 0));
        Check.refused(x, "5: selector -1", Check.ARGUMENT, () -> x.layer(0, -1, 0));
        Check.refused(x, "5: selector 4", Check.ARGUMENT, () -> x.layer(0, 4, 0));
        Check.refused(x, "5: everyone 1", Check.ARGUMENT, () -> x.layer(0, ConfigBeacon.EVERYONE, 1));
        Check.refused(x, "5: everyone -1", Check.ARGUMENT, () -> x.layer(0, ConfigBeacon.EVERYONE, -1));
        Check.refused(x, "5: region 8", Check.ARGUMENT, () -> x.layer(0, ConfigBeacon.REGION, 8));
        Check.refused(x, "5: region -1", Check.ARGUMENT, () -> x.layer(0, ConfigBeacon.REGION, -1));
        Check.refused(x, "5: group 8", Check.ARGUMENT, () -> x.layer(0, ConfigBeacon.GROUP, 8));
        Check.refused(x, "5: group -1", Check.ARGUMENT, () -> x.layer(0, ConfigBeacon.GROUP, -1));
        Check.refused(x, "5: client 12", Check.ARGUMENT, () -> x.layer(0, ConfigBeacon.CLIENT, 12));
        Check.refused(x, "5: client -1", Check.ARGUMENT, () -> x.layer(0, ConfigBeacon.CLIENT, -1));
        Check.due("5: the last one", x.layer(0, 0, 0), 7);
        Check.refused(x, "5: a layer too many", Check.STATE, () -> x.layer(0, 0, 0));
        Check.refused(x, "5: range goes ahead of state", Check.ARGUMENT, () -> x.layer(0, 0, 1));
    }

    private static void promise6Rank() {
        ConfigBeacon x = new ConfigBeacon();
        x.layer(10, 0, 0);
        x.layer(20, 0, 0);
        Check.due("6: the precedence before", x.rank(0, 99), 10);
        Check.due("6: it goes first now", x.layerAt(0), 0);
        Check.due("6: the one that was set", x.rank(0, 0), 99);
        Check.due("6: it goes last now", x.layerAt(1), 0);
        Check.due("6: the same one", x.rank(1, 20), 20);
        Check.refused(x, "6: layer -1", Check.INDEX, () -> x.rank(-1, 0));
        Check.refused(x, "6: layer 2 of 2", Check.INDEX, () -> x.rank(2, 0));
        Check.refused(x, "6: there goes ahead of range", Check.INDEX, () -> x.rank(2, 100));
        Check.refused(x, "6: precedence -1", Check.ARGUMENT, () -> x.rank(1, -1));
        Check.refused(x, "6: precedence 100", Check.ARGUMENT, () -> x.rank(1, 100));
        Check.due("6: after refusals", x.rank(1, 5), 20);
    }

    private static void promise7Layers() {
        ConfigBeacon x = new ConfigBeacon();
        for (int k = 1; k <= 8; k++) {
            x.layer(k, 0, 0);
            Check.due("7: layers", x.layers(), k);
        }
    }

    private static void promise8LayerAt() {
        ConfigBeacon x = new ConfigBeacon();
        Check.refused(x, "8: no layer at all", Check.INDEX, () -> x.layerAt(0));
        int[] precedences = {3, 50, 3, 99, 0, 50, 3, 98};
        for (int precedence : precedences) {
            x.layer(precedence, 0, 0);
        }
        int[] order = {3, 7, 5, 1, 6, 2, 0, 4};
        for (int place = 0; place < 8; place++) {
            Check.due("8: place " + place, x.layerAt(place), order[place]);
        }
        Check.refused(x, "8: place -1", Check.INDEX, () -> x.layerAt(-1));
        Check.refused(x, "8: place 8 of 8", Check.INDEX, () -> x.layerAt(8));
        x.rank(1, 51);
        Check.due("8: after rank", x.layerAt(2), 1);
    }

    private static void promise9Applies() {
        ConfigBeacon x = new ConfigBeacon();
        x.client(0, 1);
        x.client(1, 0);
        x.client(2, 2);
        x.layer(0, ConfigBeacon.EVERYONE, 0);
        x.layer(0, ConfigBeacon.REGION, 1);
        x.layer(0, ConfigBeacon.GROUP, 1);
        x.layer(0, ConfigBeacon.CLIENT, 2);
        x.layer(0, ConfigBeacon.CLIENT, 3);
        boolean[][] due = {
            {true, true, true}, {false, true, false}, {true, false, false}, {false, false, true},
            {false, false, false}
        };
        for (int layer = 0; layer < 5; layer++) {
            for (int client = 0; client < 3; client++) {
                Check.due("9: layer " + layer + ", client " + client, x.applies(layer, client), due[layer][client]);
            }
        }
        x.client(5, 5);
        Check.due("9: a client that came later", x.applies(4, 3), true);
        Check.refused(x, "9: layer -1", Check.INDEX, () -> x.applies(-1, 0));
        Check.refused(x, "9: layer 5 of 5", Check.INDEX, () -> x.applies(5, 0));
        Check.refused(x, "9: client -1", Check.INDEX, () -> x.applies(0, -1));
        Check.refused(x, "9: client 4 of 4", Check.INDEX, () -> x.applies(0, 4));
    }

    public static void main(String[] args) {
        promise1NewObject();
        promise2Client();
        promise3Move();
        promise4Clients();
        promise5Layer();
        promise6Rank();
        promise7Layers();
        promise8LayerAt();
        promise9Applies();
        Check.end("ClientsAndLayersTest");
    }
}
