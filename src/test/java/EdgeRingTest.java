/** The edges that section 2 and promises 9 to 21 name, sentence by sentence. */
final class EdgeRingTest {
    private static final int NONE = RepairAuction.NONE;
    private static final int UP = 0;
    private static final int DOWN = 1;
    private static final int DRAINING = 2;
    private static final String ONE = Texts.ring(1, 0, 0, "first");
    private static final String TENANT = Texts.tenant("t", 999999, 999999);

    private EdgeRingTest() {
    }

    static void run() {
        aroundTheRing();
        states();
        shardsOfAGroup();
        takesIfUp();
        takesIfRoom();
        takesIfNoShard();
        fromAPositionOn();
        zones();
        newGroups();
        availableShards();
        damagedAndLost();
        nodeValues();
        nodeSince();
        groupsOn();
        nodeFrom();
        clockwise();
        zoneShards();
        tenantValues();
        paidAtMost();
        share();
        groupValues();
        nodeOf();
        missing();
        zonesOf();
        damagedSet();
        lostSet();
        Sentence.end();
    }

    private static void nodesOf(RepairAuction x, int group, int... nodes) {
        for (int shard = 0; shard < nodes.length; shard++) {
            Check.same("nodeOf(" + group + ", " + shard + ")", x.nodeOf(group, shard), nodes[shard]);
        }
    }

    private static void aroundTheRing() {
        Sentence.of(0, "2. RING AND PLACING. Clockwise means in the direction of ascending positions;",
                "behind the greatest one comes the smallest one.");
        RepairAuction x = Texts.loaded(ONE + Texts.node("a", 9999, 0, 0, 9) + Texts.node("b", 4, 0, 0, 9)
                + Texts.node("c", 0, 0, 0, 1) + Texts.node("d", 7, 0, 0, 9) + TENANT
                + Texts.group("g", "t", 9999, 1, 2, 1, 1) + Texts.group("h", "t", 5, 1, 1, 1, 1));
        nodesOf(x, 0, 0, 2, 1);
        nodesOf(x, 1, 3, 0);
        Check.same("from the greatest to the smallest", x.clockwise(0, 2), 1);
        Check.same("from the smallest to the greatest", x.clockwise(2, 0), 9999);
        x.fail(0);
        Check.same("behind the greatest one: c and b have shards of g, then comes d", x.target(0), 3);
        Check.same("behind the greatest one: c is full, then comes b", x.target(1), 1);
    }

    private static void states() {
        Sentence.of(0, "A node is up, draining or down (up at first).");
        RepairAuction x = Texts.loaded(ONE + Texts.nodes(16, 0, 1));
        for (int node = 0; node < 16; node++) {
            Check.same("at first", x.node(node, 5), UP);
        }
        x.drain(15, true);
        Check.same("draining", x.node(15, 5), DRAINING);
        x.fail(15);
        Check.same("down", x.node(15, 5), DOWN);
        x.recover(15);
        Check.same("up", x.node(15, 5), UP);
        Check.same("the others stay up", x.node(14, 5), UP);
    }

    private static void shardsOfAGroup() {
        Sentence.of(0, "A group has data + parity shards, numbered from 0, each on a node;");
        RepairAuction x = Texts.loaded(ONE + Texts.nodes(10, 0, 50) + TENANT + Texts.group("g", "t", 0, 1, 1, 1, 1)
                + Texts.group("h", "t", 0, 6, 4, 1, 1) + Texts.group("i", "t", 0, 2, 1, 1, 1));
        nodesOf(x, 0, 0, 1);
        Check.outside("shard 2 of 2", () -> x.nodeOf(0, 2));
        nodesOf(x, 1, 0, 1, 2, 3, 4, 5, 6, 7, 8, 9);
        Check.outside("shard 10 of 10", () -> x.nodeOf(1, 10));
        nodesOf(x, 2, 0, 1, 2);
        Check.outside("shard 3 of 3", () -> x.nodeOf(2, 3));
        Sentence.of(0, "it never has two shards on the same node.");
        Check.unfit("move a shard to where another one is", () -> x.move(1, 0, 9));
        x.fail(9);
        Check.same("a shard of ten is missing, and all other nodes have one", x.target(1), NONE);
        Check.yes("so it does not bid", !x.bids(1));
        InputTest.bad(5, ONE + Texts.node("a", 0, 0, 0, 50) + TENANT + "group g of t key 0 data 1 parity 1 size 1 value 1^;");
        InputTest.bad(5, ONE + Texts.nodes(9, 0, 50) + TENANT + "group g of t key 0 data 6 parity 4 size 1 value 1^;");
    }

    private static void takesIfUp() {
        Sentence.of(0, "A node can take a shard of a group if it is up,");
        RepairAuction x = Texts.loaded(ONE + Texts.FOUR + TENANT + Texts.pair("g", "t", 1, 1));
        x.fail(1);
        Check.same("c is up", x.target(0), 2);
        x.drain(2, true);
        Check.same("c is draining", x.target(0), 3);
        Check.unfit("move to a draining node", () -> x.move(0, 0, 2));
        x.drain(3, true);
        Check.same("c and d are draining", x.target(0), NONE);
        x.fail(2);
        Check.same("c is down", x.target(0), NONE);
        Check.unfit("move to a node that is down", () -> x.move(0, 0, 2));
        x.recover(2);
        Check.same("c is up again", x.target(0), 2);
        Check.same("move to a node that is up", x.move(0, 0, 2), 0);
    }

    /** So many groups of two shards whose first shard comes to c, as long as c has room. */
    private static RepairAuction crowd(int groups, int room) {
        StringBuilder text = new StringBuilder(ONE + Texts.node("a", 0, 0, 0, 50) + Texts.node("b", 10, 1, 0, 50)
                + Texts.node("c", 20, 2, 0, room) + Texts.node("d", 30, 3, 0, 50) + TENANT);
        for (int group = 0; group < groups; group++) {
            text.append(Texts.group("" + (char) ('g' + group), "t", 20, 1, 1, 1, 1));
        }
        return Texts.loaded(text.toString());
    }

    private static void takesIfRoom() {
        Sentence.of(0, "has fewer shards than its room,");
        for (int room : new int[] {1, 2, 9}) {
            RepairAuction x = crowd(room + 1, room);
            for (int group = 0; group < room; group++) {
                nodesOf(x, group, 2, 3);
            }
            nodesOf(x, room, 3, 0);
            Check.same("c is full", x.node(2, 4), room);
            Check.unfit("move to a full node", () -> x.move(room, 0, 2));
            x.fail(3);
            x.drain(1, true);
            Check.same("a full node is no target", x.target(room), NONE);
            x.drain(1, false);
            x.move(0, 0, 1);
            x.drain(1, true);
            Check.same("it is one as soon as a shard is gone", x.target(room), 2);
            Check.same("and takes one more", x.move(room, 1, 2), 0);
            Check.unfit("but not two", () -> x.move(0, 0, 2));
        }
        Check.same("ten shards, and a room of ten", crowd(10, 10).node(2, 4), 10);
        Check.same("ten shards, and the greatest room", crowd(10, 50).node(2, 4), 10);
    }

    private static void takesIfNoShard() {
        Sentence.of(0, "and has no shard of this group.");
        RepairAuction x = Texts.loaded(ONE + Texts.FOUR + TENANT + Texts.pair("g", "t", 1, 1) + Texts.group("h", "t", 20, 1, 1, 1, 1));
        Check.unfit("move to the node of the other shard", () -> x.move(0, 0, 1));
        Check.unfit("move to the node of this shard", () -> x.move(0, 0, 0));
        Check.same("move to a node with a shard of another group", x.move(0, 0, 2), 0);
        x.fail(1);
        Check.same("c has a shard of g now", x.target(0), 3);
    }

    private static void fromAPositionOn() {
        Sentence.of(0, "To place a shard from a position on means: of all nodes, clockwise from the first node whose position is at least "
                + "this one (or from the node with the smallest position),");
        int[] keys = {0, 99, 100, 101, 200, 201, 300, 301, 9999};
        int[] first = {0, 0, 0, 1, 1, 2, 2, 0, 0};
        for (int i = 0; i < keys.length; i++) {
            RepairAuction x = Texts.loaded(ONE + Texts.node("a", 100, 0, 0, 9) + Texts.node("b", 200, 0, 0, 9)
                    + Texts.node("c", 300, 0, 0, 9) + TENANT + Texts.group("g", "t", keys[i], 1, 1, 1, 1));
            nodesOf(x, 0, first[i], (first[i] + 1) % 3);
        }
        for (int first0 : new int[] {100, 9997, 9998, 9999}) {
            RepairAuction x = Texts.loaded(ONE + Texts.node("a", first0, 0, 0, 9) + Texts.node("d", (first0 + 3) % 10000, 0, 0, 9)
                    + Texts.node("c", (first0 + 2) % 10000, 0, 0, 9) + Texts.node("b", (first0 + 1) % 10000, 0, 0, 9) + TENANT
                    + Texts.group("g", "t", first0, 1, 1, 1, 1));
            nodesOf(x, 0, 0, 3);
            x.fail(3);
            Check.same("a repair at the very next position", x.target(0), 2);
            x.recover(3);
            x.fail(0);
            Check.same("b has a shard, c is next", x.target(0), 2);
            x.fail(2);
            Check.same("c is down, d is next", x.target(0), 1);
        }
    }

    private static void zones() {
        Sentence.of(0, "the first one that can take it and whose zone is not that of a node with another shard of this group;");
        RepairAuction x = Texts.loaded(ONE + Texts.node("a", 0, 0, 0, 9) + Texts.node("b", 10, 1, 0, 9) + Texts.node("c", 20, 2, 0, 9)
                + Texts.node("d", 30, 2, 0, 9) + Texts.node("e", 40, 3, 0, 9) + Texts.node("f", 50, 1, 0, 9) + TENANT
                + Texts.group("g", "t", 0, 1, 2, 1, 1) + Texts.group("h", "t", 20, 1, 1, 1, 1));
        nodesOf(x, 0, 0, 1, 2);
        nodesOf(x, 1, 2, 4);
        x.fail(1);
        Check.same("d is in c's zone, e in one of its own", x.target(0), 4);
        x.fail(2);
        Check.same("the zone of a missing shard counts, too", x.target(0), 4);
        x.drain(4, true);
        Check.same("the zone of this very shard does not count: f", x.target(0), 5);
        x.drain(5, true);
        Sentence.of(0, "if there is none, the first one that can take it.");
        Check.same("d, whose zone is used", x.target(0), 3);
        x.drain(3, true);
        Check.same("none can take it", x.target(0), NONE);
        RepairAuction y = Texts.loaded(ONE + Texts.node("a", 0, 5, 0, 9) + Texts.node("b", 10, 5, 0, 9) + Texts.node("c", 20, 5, 0, 9) + TENANT
                + Texts.group("g", "t", 20, 1, 2, 1, 1));
        nodesOf(y, 0, 2, 0, 1);
    }

    private static void newGroups() {
        Sentence.of(0, "The shards of a new group are placed in order, the first one from the key on, "
                + "each other one from the position of the previous one plus 1 on.");
        RepairAuction x = Texts.loaded(ONE + Texts.node("a", 0, 0, 0, 9) + Texts.node("b", 1, 0, 0, 9) + Texts.node("c", 2, 1, 0, 9)
                + Texts.node("d", 3, 2, 0, 9) + Texts.node("e", 4, 1, 0, 9) + TENANT
                + Texts.group("g", "t", 2, 1, 3, 1, 1) + Texts.group("h", "t", 5, 1, 4, 1, 1));
        nodesOf(x, 0, 2, 3, 0, 1);
        nodesOf(x, 1, 0, 2, 3, 4, 1);
    }

    private static void availableShards() {
        Sentence.of(0, "A shard is available if its node is not down, otherwise it is missing.");
        RepairAuction x = Texts.loaded(ONE + Texts.FOUR + TENANT + Texts.pair("g", "t", 1, 1));
        Check.same("up", x.missing(0), 0);
        x.drain(1, true);
        Check.same("draining", x.missing(0), 0);
        x.fail(1);
        Check.same("down", x.missing(0), 2);
        x.recover(1);
        Check.same("up again", x.missing(0), 0);
    }

    private static void damagedAndLost() {
        Sentence.of(0, "A group is damaged if a shard of it is missing;",
                "it is lost while fewer of its shards are available than it has data shards.");
        int[][] kinds = {{1, 1}, {1, 4}, {2, 2}, {6, 1}, {6, 4}};
        for (int[] kind : kinds) {
            RepairAuction x = Texts.loaded(ONE + Texts.nodes(10, 0, 1) + TENANT + Texts.group("g", "t", 0, kind[0], kind[1], 1, 1));
            int shards = kind[0] + kind[1];
            for (int down = 0; down <= shards; down++) {
                Check.same("damaged with " + down + " missing", x.damaged(), down > 0 ? 1 : 0);
                Check.same("lost with " + down + " missing", x.lost(), shards - down < kind[0] ? 1 : 0);
                if (down < shards) {
                    x.fail(down);
                }
            }
            for (int up = 1; up <= shards; up++) {
                x.recover(shards - up);
                Check.same("lost with " + up + " again", x.lost(), up < kind[0] ? 1 : 0);
                Check.same("damaged with " + up + " again", x.damaged(), up < shards ? 1 : 0);
            }
        }
    }

    private static void nodeValues() {
        Sentence.of(9, "- `what`: 0 its position; 1 its zone; 2 its risk; 3 its room; 4 the number of shards on it (missing ones included); "
                + "5 its state: 0 up, 1 down, 2 draining;", "Returns that value.");
        RepairAuction x = Texts.loaded(ONE + Texts.node("a", 0, 0, 0, 1) + Texts.node("b", 9999, 9, 999, 50) + TENANT
                + Texts.group("g", "t", 0, 1, 1, 1, 1));
        int[][] due = {{0, 0, 0, 1, 1, UP}, {9999, 9, 999, 50, 1, UP}};
        for (int node = 0; node < 2; node++) {
            for (int what = 0; what < 6; what++) {
                Check.same("node(" + node + ", " + what + ")", x.node(node, what), due[node][what]);
            }
        }
        x.fail(1);
        Check.same("a missing shard is on it", x.node(1, 4), 1);
        Check.same("down", x.node(1, 5), DOWN);
        x.drain(0, true);
        Check.same("draining", x.node(0, 5), DRAINING);
        Check.same("no shard", Texts.loaded(ONE + Texts.FOUR).node(3, 4), 0);
        Check.illegal("node(0, -1)", () -> x.node(0, -1));
        Check.illegal("node(0, 7)", () -> x.node(0, 7));
        Check.outside("node(-1, 7)", () -> x.node(-1, 7));
        Check.outside("node(2, 0)", () -> x.node(2, 0));
    }

    private static void nodeSince() {
        Sentence.of(9, "6 the number of the next round at the moment at which it got this state (0 if it has always had it)");
        RepairAuction x = Texts.loaded(ONE + Texts.FOUR);
        x.fail(0);
        Check.same("down since before round 0", x.node(0, 6), 0);
        x.round();
        Check.same("still the same", x.node(0, 6), 0);
        x.recover(0);
        Check.same("up since before round 1", x.node(0, 6), 1);
        x.rounds(100);
        x.drain(0, true);
        Check.same("draining since before round 101", x.node(0, 6), 101);
        x.round();
        x.drain(0, false);
        Check.same("up since before round 102", x.node(0, 6), 102);
        x.undo();
        Check.same("draining since before round 101, still", x.node(0, 6), 101);
        x.fail(0);
        Check.same("down since before round 102", x.node(0, 6), 102);
        Check.same("always up", x.node(1, 6), 0);
        Check.same("always up, at the end", x.node(3, 6), 0);
    }

    /** The ten groups g to p on a and b. */
    private static String ten() {
        StringBuilder text = new StringBuilder(ONE + Texts.FOUR + TENANT);
        for (int group = 0; group < 10; group++) {
            text.append(Texts.pair("" + (char) ('g' + group), "t", 1, 1));
        }
        return text.toString();
    }

    private static void groupsOn() {
        Sentence.of(10, "Returns the set of the groups that have a shard on it.");
        RepairAuction x = Texts.loaded(ten());
        Check.same("all groups", x.groupsOn(0), 1023);
        Check.same("no group", x.groupsOn(3), 0);
        x.move(9, 0, 3);
        Check.same("the last group alone", x.groupsOn(3), 512);
        Check.same("all others", x.groupsOn(0), 511);
        x.fail(0);
        Check.same("missing shards are on it, too", x.groupsOn(0), 511);
        Sentence.of(0, "Sets of nodes and groups are bit masks in which bit i stands for node or group i.");
        Check.same("groups 0 to 8 are damaged", x.damaged(), 511);
        Check.same("no group is lost by d", x.lostBy(8), 0);
        Check.same("groups 0 to 8 are lost by b", x.lostBy(2), 511);
        Check.same("group 9, too, by b and d", x.lostBy(10), 1023);
    }

    private static void nodeFrom() {
        Sentence.of(11, "- `position`: 0 to 9999",
                "Returns the first node clockwise whose position is at least this one, or the node with the smallest position;");
        RepairAuction x = Texts.loaded(ONE + Texts.node("a", 9998, 0, 0, 1) + Texts.node("b", 1, 0, 0, 1) + Texts.node("c", 500, 0, 0, 1));
        int[][] due = {{0, 1}, {1, 1}, {2, 2}, {499, 2}, {500, 2}, {501, 0}, {9997, 0}, {9998, 0}, {9999, 1}};
        for (int[] each : due) {
            Check.same("nodeFrom(" + each[0] + ")", x.nodeFrom(each[0]), each[1]);
        }
        x.fail(2);
        Check.same("the state does not matter", x.nodeFrom(2), 2);
        Check.illegal("nodeFrom(-1)", () -> x.nodeFrom(-1));
        Check.illegal("nodeFrom(10000)", () -> x.nodeFrom(10000));
        RepairAuction ends = Texts.loaded(ONE + Texts.node("a", 0, 0, 0, 1) + Texts.node("b", 9999, 0, 0, 1));
        Check.same("position 0", ends.nodeFrom(0), 0);
        Check.same("position 9999", ends.nodeFrom(9999), 1);
        Check.same("position 1", ends.nodeFrom(1), 1);
        Sentence.of(11, "NONE if there are no nodes.");
        RepairAuction none = new RepairAuction();
        Check.same("nodeFrom(0)", none.nodeFrom(0), NONE);
        Check.same("nodeFrom(9999)", none.nodeFrom(9999), NONE);
        Check.illegal("nodeFrom(-1)", () -> none.nodeFrom(-1));
        Check.same("a single node", Texts.loaded(ONE + Texts.node("a", 7, 0, 0, 1)).nodeFrom(8), 0);
    }

    private static void clockwise() {
        Sentence.of(12, "Returns how far one goes clockwise from the position of the first one to that of the other one, on a ring of 10000 positions.",
                "- `other`: number of a node, possibly the same");
        RepairAuction x = Texts.loaded(ONE + Texts.node("a", 0, 0, 0, 1) + Texts.node("b", 9999, 0, 0, 1) + Texts.node("c", 5000, 0, 0, 1));
        int[][] due = {{0, 9999, 5000}, {1, 0, 5001}, {5000, 4999, 0}};
        for (int node = 0; node < 3; node++) {
            for (int other = 0; other < 3; other++) {
                Check.same("clockwise(" + node + ", " + other + ")", x.clockwise(node, other), due[node][other]);
            }
        }
        Check.outside("clockwise(3, 0)", () -> x.clockwise(3, 0));
        Check.outside("clockwise(0, 3)", () -> x.clockwise(0, 3));
        Check.outside("clockwise(3, 3)", () -> x.clockwise(3, 3));
    }

    private static void zoneShards() {
        Sentence.of(13, "- `zone`: 0 to 9", "Returns the number of shards on the nodes of this zone (missing ones included).");
        RepairAuction x = Texts.loaded(ONE + Texts.node("a", 0, 0, 0, 9) + Texts.node("b", 1, 9, 0, 9) + Texts.node("c", 2, 9, 0, 9)
                + Texts.node("d", 3, 4, 0, 9) + TENANT + Texts.group("g", "t", 0, 1, 2, 1, 1) + Texts.group("h", "t", 1, 1, 1, 1, 1));
        int[] due = {1, 0, 0, 0, 2, 0, 0, 0, 0, 2};
        for (int zone = 0; zone < 10; zone++) {
            Check.same("zoneShards(" + zone + ")", x.zoneShards(zone), due[zone]);
        }
        x.fail(1);
        x.fail(2);
        Check.same("missing ones included", x.zoneShards(9), 2);
        Check.illegal("zoneShards(-1)", () -> x.zoneShards(-1));
        Check.illegal("zoneShards(10)", () -> x.zoneShards(10));
        Check.same("without nodes", new RepairAuction().zoneShards(0), 0);
    }

    private static void tenants(RepairAuction x, int... due) {
        for (int what = 0; what < 5; what++) {
            Check.same("tenant(0, " + what + ")", x.tenant(0, what), due[what]);
        }
    }

    private static void tenantValues() {
        Sentence.of(14, "- `what`: 0 its income; 1 its greatest purse; 2 its purse; 3 the number of units that it has bought so far;",
                "Returns that value.");
        RepairAuction x = Texts.loaded(Texts.ring(10, 0, 0, "first") + Texts.FOUR + Texts.tenant("t", 7, 100) + Texts.pair("g", "t", 2, 3));
        tenants(x, 7, 100, 0, 0, 0);
        x.fail(1);
        x.round();
        tenants(x, 7, 100, 1, 2, 6);
        x.round();
        tenants(x, 7, 100, 2, 4, 12);
        x.round();
        tenants(x, 7, 100, 9, 4, 12);
        Check.illegal("tenant(0, -1)", () -> x.tenant(0, -1));
        Check.illegal("tenant(0, 5)", () -> x.tenant(0, 5));
        Check.outside("tenant(-1, 5)", () -> x.tenant(-1, 5));
        Check.outside("tenant(1, 0)", () -> x.tenant(1, 0));
    }

    /** Nine great groups whose repairs cost 9999 a unit, and a small one on nodes of its own, all of one tenant. */
    private static String dear() {
        StringBuilder text = new StringBuilder(Texts.ring(99999, 0, 1, "first"));
        for (int node = 0; node < 16; node++) {
            text.append(Texts.node("" + (char) ('a' + node), node, 0, 999, node < 14 ? 50 : 1));
        }
        text.append(TENANT).append(Texts.group("s", "t", 14, 1, 1, 10, 9999));
        for (int group = 0; group < 9; group++) {
            text.append(Texts.group("" + (char) ('a' + group), "t", 0, 6, 4, 100, 9999));
        }
        return text.toString();
    }

    private static void paidAtMost() {
        Sentence.of(14, "4 the credits that it has paid so far, but at most 2000000000");
        RepairAuction x = Texts.loaded(dear());
        // A purse of 999999 pays for 100 units a round: 252 rounds for a shard of each great group's four.
        for (int times = 1; times <= 8; times++) {
            int[] nodes = {x.nodeOf(1, 0), x.nodeOf(1, 1), x.nodeOf(1, 2), x.nodeOf(1, 3)};
            for (int node : nodes) {
                x.fail(node);
            }
            x.rounds(100);
            x.rounds(100);
            x.rounds(times < 8 ? 100 : 36);
            Check.same("paid", x.tenant(0, 4), times < 8 ? times * 25200 * 9999 : 1999800000);
            if (times == 8) {
                x.setBandwidth(20);
                Check.same("twenty units more", x.round(), 20);
            }
            for (int node : nodes) {
                x.recover(node);
            }
        }
        Check.same("twenty credits less", x.tenant(0, 4), 1999999980);
        // With the rule uniform and units for all, a unit costs the reserve price of 1.
        x.setBandwidth(99999);
        x.setRule(2);
        x.fail(14);
        Check.same("the small group buys", x.round(), 20);
        Check.same("the greatest number", x.tenant(0, 4), 2000000000);
        x.fail(15);
        Check.same("the small group buys again", x.round(), 20);
        Check.same("it does not grow any more", x.tenant(0, 4), 2000000000);
        Check.same("the units do", x.tenant(0, 3), 7 * 25200 + 23600 + 60);
    }

    private static void share() {
        Sentence.of(15, "Returns the units that the tenant has bought, divided by the units that all tenants have bought, as a double;");
        RepairAuction x = Texts.loaded(Texts.ring(99, 0, 0, "first") + Texts.FOUR + Texts.tenant("t", 9, 9) + Texts.tenant("u", 9, 9)
                + Texts.tenant("v", 9, 9) + Texts.pair("g", "t", 1, 3) + Texts.pair("h", "u", 2, 2));
        x.fail(1);
        x.round();
        Check.same("two of six", x.share(0), 2.0 / 6.0);
        Check.same("four of six", x.share(1), 4.0 / 6.0);
        Check.same("none of six", x.share(2), 0.0);
        x.undo();
        Sentence.of(15, "0.0 if none were bought.");
        Check.same("none of none", x.share(0), 0.0);
        x.setBandwidth(2);
        x.round();
        Check.same("all of two", x.share(0), 1.0);
        Check.same("none of two", x.share(1), 0.0);
        Check.outside("share(-1)", () -> x.share(-1));
        Check.outside("share(3)", () -> x.share(3));
    }

    private static void groupValues() {
        Sentence.of(16, "- `what`: 0 its tenant; 1 its key; 2 data shards; 3 parity shards; 4 size; 5 value; 6 progress; "
                + "7 the cost of repairing one shard; 8 its need", "Returns that value.");
        RepairAuction x = Texts.loaded(ONE + Texts.nodes(15, 999, 2) + TENANT + Texts.tenant("u", 0, 0)
                + Texts.group("g", "t", 0, 1, 1, 1, 1) + Texts.group("h", "u", 9999, 6, 4, 100, 9999));
        int[][] due = {{0, 0, 1, 1, 1, 1, 0, 2, 0}, {1, 9999, 6, 4, 100, 9999, 0, 700, 0}};
        for (int group = 0; group < 2; group++) {
            for (int what = 0; what < 9; what++) {
                Check.same("group(" + group + ", " + what + ")", x.group(group, what), due[group][what]);
            }
        }
        for (int node = 0; node < 4; node++) {
            x.fail(node);
        }
        Check.same("the greatest need of a group that is not lost", x.group(1, 8), 2800);
        Check.same("need of a group without shards", x.group(0, 8), 4);
        x.recover(1);
        x.round();
        Check.same("progress", x.group(0, 6), 1);
        Check.same("need, less the progress", x.group(0, 8), 1);
        Check.illegal("group(0, -1)", () -> x.group(0, -1));
        Check.illegal("group(0, 9)", () -> x.group(0, 9));
        Check.outside("group(2, 9)", () -> x.group(2, 9));
        Check.outside("group(-1, 0)", () -> x.group(-1, 0));
    }

    private static void nodeOf() {
        Sentence.of(17, "Returns the node of this shard.");
        RepairAuction x = Texts.loaded(ONE + Texts.nodes(16, 0, 1) + TENANT + Texts.group("g", "t", 150, 6, 4, 1, 1));
        Check.same("the first shard, on the last node", x.nodeOf(0, 0), 15);
        Check.same("the last shard", x.nodeOf(0, 9), 9);
        x.fail(9);
        Check.same("a missing shard", x.nodeOf(0, 9), 9);
        x.move(0, 0, 14);
        Check.same("a shard that was moved", x.nodeOf(0, 0), 14);
        Check.outside("nodeOf(0, 10)", () -> x.nodeOf(0, 10));
        Check.outside("nodeOf(0, -1)", () -> x.nodeOf(0, -1));
        Check.outside("nodeOf(1, 0)", () -> x.nodeOf(1, 0));
        Check.outside("nodeOf(-1, -1)", () -> x.nodeOf(-1, -1));
    }

    private static void missing() {
        Sentence.of(18, "Returns the set of its missing shards, in which bit i stands for shard i.");
        RepairAuction x = Texts.loaded(ONE + Texts.nodes(10, 0, 1) + TENANT + Texts.group("g", "t", 0, 6, 4, 1, 1));
        Check.same("none", x.missing(0), 0);
        x.fail(9);
        Check.same("the last one", x.missing(0), 512);
        x.fail(0);
        Check.same("the first and the last one", x.missing(0), 513);
        for (int node = 1; node < 9; node++) {
            x.fail(node);
        }
        Check.same("all", x.missing(0), 1023);
        Check.outside("missing(1)", () -> x.missing(1));
        Check.outside("missing(-1)", () -> x.missing(-1));
    }

    private static void zonesOf() {
        Sentence.of(19, "Returns the number of different zones of the nodes of its available shards.");
        RepairAuction x = Texts.loaded(ONE + Texts.nodes(10, 0, 9) + TENANT + Texts.group("g", "t", 0, 6, 4, 1, 1));
        for (int zones = 10; zones > 0; zones--) {
            Check.same("zones", x.zonesOf(0), zones);
            x.drain(zones - 1, true);
            Check.same("a draining node's shard is available", x.zonesOf(0), zones);
            x.fail(zones - 1);
        }
        Check.same("no shard is available", x.zonesOf(0), 0);
        RepairAuction y = Texts.loaded(ONE + Texts.node("a", 0, 9, 0, 9) + Texts.node("b", 1, 9, 0, 9) + TENANT
                + Texts.group("g", "t", 0, 1, 1, 1, 1));
        Check.same("two shards in one zone", y.zonesOf(0), 1);
        y.fail(0);
        Check.same("one shard in it", y.zonesOf(0), 1);
        Check.outside("zonesOf(1)", () -> x.zonesOf(1));
        Check.outside("zonesOf(-1)", () -> x.zonesOf(-1));
    }

    private static void damagedSet() {
        Sentence.of(20, "Returns the set of the damaged groups.");
        Check.same("without groups", new RepairAuction().damaged(), 0);
        RepairAuction x = Texts.loaded(ten());
        Check.same("none", x.damaged(), 0);
        x.move(9, 1, 2);
        x.fail(2);
        Check.same("the last one", x.damaged(), 512);
        x.fail(0);
        Check.same("all, a lost one, too", x.damaged(), 1023);
        x.recover(0);
        x.recover(2);
        Check.same("none again", x.damaged(), 0);
    }

    private static void lostSet() {
        Sentence.of(21, "Returns the set of the lost groups.");
        Check.same("without groups", new RepairAuction().lost(), 0);
        RepairAuction x = Texts.loaded(ten());
        Check.same("none", x.lost(), 0);
        x.move(9, 1, 2);
        x.fail(0);
        Check.same("all are damaged, none is lost", x.lost(), 0);
        x.fail(2);
        Check.same("the last one", x.lost(), 512);
        x.fail(1);
        Check.same("all", x.lost(), 1023);
        x.recover(0);
        Check.same("none again", x.lost(), 0);
    }
}
