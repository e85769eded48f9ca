/** Promises 9 to 21 and section 2: nodes, placing, tenants, groups and what of them is missing. */
final class RingTest {
    private RingTest() {
    }

    static void run() {
        node();
        groupsOn();
        nodeFrom();
        clockwise();
        zoneShards();
        placing();
        placingFromTheNextPosition();
        tenant();
        share();
        group();
        nodeOf();
        missing();
        zonesOf();
        damagedAndLost();
    }

    private static void node() {
        RepairAuction x = Texts.loaded(Texts.SMALL);
        int[][] due = {{100, 0, 100, 3, 1, 0, 0}, {2600, 1, 200, 3, 2, 0, 0}, {5100, 2, 0, 3, 1, 0, 0},
            {7600, 0, 50, 3, 1, 0, 0}};
        for (int node = 0; node < 4; node++) {
            for (int what = 0; what < 7; what++) {
                Check.same("node(" + node + ", " + what + ")", x.node(node, what), due[node][what]);
            }
        }
        Check.outside("node(-1, 0)", () -> x.node(-1, 0));
        Check.outside("node(4, 0)", () -> x.node(4, 0));
        Check.outside("node(4, 7)", () -> x.node(4, 7));
        Check.illegal("node(0, 7)", () -> x.node(0, 7));
        Check.illegal("node(0, -1)", () -> x.node(0, -1));
        x.fail(1);
        Check.same("missing shards are on a node, too", x.node(1, 4), 2);
        x.drain(2, true);
        Check.same("state down", x.node(1, 5), 1);
        Check.same("state draining", x.node(2, 5), 2);
        x.rounds(2);
        x.drain(3, true);
        x.drain(2, false);
        x.recover(1);
        Check.same("draining since", x.node(3, 6), 2);
        Check.same("up again since", x.node(2, 6), 2);
        Check.same("recovered since", x.node(1, 6), 2);
        Check.same("always up", x.node(0, 6), 0);
    }

    private static void groupsOn() {
        RepairAuction x = Texts.loaded(Texts.SMALL);
        Check.same("groupsOn(0)", x.groupsOn(0), 1);
        Check.same("groupsOn(1)", x.groupsOn(1), 3);
        Check.same("groupsOn(2)", x.groupsOn(2), 2);
        Check.same("groupsOn(3)", x.groupsOn(3), 2);
        x.fail(3);
        Check.same("groupsOn a node that is down", x.groupsOn(3), 2);
        x.move(0, 0, 2);
        Check.same("groupsOn behind a move", x.groupsOn(0), 0);
        Check.same("groupsOn the new node", x.groupsOn(2), 3);
        Check.outside("groupsOn(-1)", () -> x.groupsOn(-1));
        Check.outside("groupsOn(4)", () -> x.groupsOn(4));
    }

    private static void nodeFrom() {
        RepairAuction x = Texts.loaded(Texts.SMALL);
        Check.same("nodeFrom(0)", x.nodeFrom(0), 0);
        Check.same("nodeFrom(100)", x.nodeFrom(100), 0);
        Check.same("nodeFrom(101)", x.nodeFrom(101), 1);
        Check.same("nodeFrom(7600)", x.nodeFrom(7600), 3);
        Check.same("nodeFrom(7601)", x.nodeFrom(7601), 0);
        Check.same("nodeFrom(9999)", x.nodeFrom(9999), 0);
        x.fail(1);
        Check.same("nodeFrom a node that is down", x.nodeFrom(101), 1);
        Check.illegal("nodeFrom(-1)", () -> x.nodeFrom(-1));
        Check.illegal("nodeFrom(10000)", () -> x.nodeFrom(10000));
        RepairAuction empty = new RepairAuction();
        Check.same("nodeFrom without nodes", empty.nodeFrom(9999), RepairAuction.NONE);
        Check.illegal("nodeFrom(10000) without nodes", () -> empty.nodeFrom(10000));
        RepairAuction turned = Texts.loaded(Texts.RING
                + "node a at 9999 zone 0 risk 0 room 1;node b at 0 zone 0 risk 0 room 1;");
        Check.same("the smallest position", turned.nodeFrom(0), 1);
        Check.same("the greatest position", turned.nodeFrom(1), 0);
    }

    private static void clockwise() {
        RepairAuction x = Texts.loaded(Texts.SMALL);
        Check.same("clockwise(0, 3)", x.clockwise(0, 3), 7500);
        Check.same("clockwise(3, 0)", x.clockwise(3, 0), 2500);
        Check.same("clockwise(2, 2)", x.clockwise(2, 2), 0);
        Check.outside("clockwise(4, 0)", () -> x.clockwise(4, 0));
        Check.outside("clockwise(0, 4)", () -> x.clockwise(0, 4));
        Check.outside("clockwise(-1, 0)", () -> x.clockwise(-1, 0));
        Check.outside("clockwise(0, -1)", () -> x.clockwise(0, -1));
    }

    private static void zoneShards() {
        RepairAuction x = Texts.loaded(Texts.SMALL);
        x.fail(0);
        Check.same("zoneShards(0)", x.zoneShards(0), 2);
        Check.same("zoneShards(1)", x.zoneShards(1), 2);
        Check.same("zoneShards(2)", x.zoneShards(2), 1);
        Check.same("zoneShards(9)", x.zoneShards(9), 0);
        Check.illegal("zoneShards(10)", () -> x.zoneShards(10));
        Check.illegal("zoneShards(-1)", () -> x.zoneShards(-1));
    }

    private static void placing() {
        String nodes = "node a at 9999 zone 0 risk 0 room 9;node b at 0 zone 0 risk 0 room 9;"
                + "node c at 1 zone 0 risk 0 room 1;node d at 5000 zone 1 risk 0 room 9;tenant t income 0 most 0;";
        RepairAuction x = Texts.loaded(Texts.RING + nodes
                + "group g of t key 9999 data 1 parity 2 size 1 value 1;"
                + "group h of t key 9999 data 2 parity 2 size 1 value 1;"
                + "group i of t key 1 data 1 parity 1 size 1 value 1;");
        Check.same("the key is a node's position", x.nodeOf(0, 0), 0);
        Check.same("another zone goes first", x.nodeOf(0, 1), 3);
        Check.same("behind that the next node, whatever its zone", x.nodeOf(0, 2), 1);
        Check.same("h 2 is behind d, and a has a shard already", x.nodeOf(1, 2), 1);
        Check.same("h 3 is behind b", x.nodeOf(1, 3), 2);
        Check.same("c has no room for i", x.nodeOf(2, 0), 3);
        Check.same("i 1 is in the other zone", x.nodeOf(2, 1), 0);
        x.fail(3);
        Check.same("a is the first behind d that h could use, but all have a shard", x.target(1), RepairAuction.NONE);
        Check.same("i goes on behind d to b, for a has a shard of i", x.target(2), 1);
        x.drain(1, true);
        Check.same("a draining node takes none, c has no room", x.target(2), RepairAuction.NONE);
        x.drain(1, false);
        x.fail(1);
        Check.same("a node that is down takes none", x.target(2), RepairAuction.NONE);
    }

    private static void placingFromTheNextPosition() {
        RepairAuction x = Texts.loaded(Texts.RING
                + "node a at 11 zone 0 risk 0 room 9;node b at 12 zone 1 risk 0 room 9;node c at 10 zone 2 risk 0 room 9;"
                + "node d at 13 zone 1 risk 0 room 9;tenant t income 0 most 0;"
                + "group g of t key 11 data 1 parity 1 size 1 value 1;");
        Check.same("at the key", x.nodeOf(0, 0), 0);
        Check.same("at the position behind that", x.nodeOf(0, 1), 1);
        x.fail(1);
        Check.same("the zone of the missing shard itself is free", x.target(0), 3);
        x.fail(3);
        Check.same("around the ring", x.target(0), 2);
        x.recover(1);
        x.fail(0);
        Check.same("behind the first shard comes b, which has the other one, then c around the ring", x.target(0), 2);
        x.recover(3);
        Check.same("c is in a free zone, d is not", x.target(0), 2);
        x.fail(2);
        Check.same("d is all that is left", x.target(0), 3);
        x.recover(2);
        x.recover(0);
        x.move(0, 1, 2);
        x.fail(2);
        Check.same("the position behind the old node's is a's, then comes b", x.target(0), 1);
        x.move(0, 0, 1);
        Check.same("now a is the first one", x.target(0), 0);
    }

    private static void tenant() {
        RepairAuction x = Texts.loaded(Texts.SMALL);
        x.fail(1);
        Check.same("the round sells ga a shard", x.round(), 0);
        x.grant(0, 90000);
        x.round();
        int[] due = {1000, 5000, 91000 - 2000 * 20, 20, 40000};
        for (int what = 0; what < 5; what++) {
            Check.same("tenant(0, " + what + ")", x.tenant(0, what), due[what]);
            Check.same("tenant(1, " + what + ")", x.tenant(1, what), 0);
        }
        Check.outside("tenant(2, 0)", () -> x.tenant(2, 0));
        Check.outside("tenant(-1, 0)", () -> x.tenant(-1, 0));
        Check.outside("tenant(2, 5)", () -> x.tenant(2, 5));
        Check.illegal("tenant(0, 5)", () -> x.tenant(0, 5));
        Check.illegal("tenant(0, -1)", () -> x.tenant(0, -1));
    }

    private static void share() {
        RepairAuction x = Texts.loaded(Texts.SMALL);
        Check.same("share(0) of nothing", x.share(0), 0.0);
        x.fail(1);
        x.grant(0, 90000);
        x.round();
        Check.same("share(0) of all", x.share(0), 1.0);
        Check.same("share(1) of none", x.share(1), 0.0);
        x.grant(1, 999999);
        x.round();
        Check.same("units of tb", x.tenant(1, 3), 15);
        Check.same("share(0)", x.share(0), 20.0 / 35.0);
        Check.same("share(1)", x.share(1), 15.0 / 35.0);
        Check.outside("share(2)", () -> x.share(2));
        Check.outside("share(-1)", () -> x.share(-1));
    }

    private static void group() {
        RepairAuction x = Texts.loaded(Texts.SMALL);
        int[][] due = {{0, 0, 1, 1, 10, 20, 0, 20, 0}, {1, 2600, 2, 1, 5, 9999, 0, 15, 0}};
        for (int group = 0; group < 2; group++) {
            for (int what = 0; what < 9; what++) {
                Check.same("group(" + group + ", " + what + ")", x.group(group, what), due[group][what]);
            }
        }
        x.fail(1);
        Check.same("need of ga", x.group(0, 8), 20);
        Check.same("need of gb", x.group(1, 8), 15);
        x.grant(0, 14000);
        x.round();
        Check.same("progress of ga", x.group(0, 6), 7);
        Check.same("need of ga, less its progress", x.group(0, 8), 13);
        x.recover(1);
        Check.same("progress stays", x.group(0, 6), 7);
        Check.same("need is at least 0", x.group(0, 8), 0);
        Check.outside("group(2, 0)", () -> x.group(2, 0));
        Check.outside("group(-1, 9)", () -> x.group(-1, 9));
        Check.illegal("group(0, 9)", () -> x.group(0, 9));
        Check.illegal("group(0, -1)", () -> x.group(0, -1));
    }

    private static void nodeOf() {
        RepairAuction x = Texts.loaded(Texts.SMALL);
        Check.same("nodeOf(0, 0)", x.nodeOf(0, 0), 0);
        Check.same("nodeOf(0, 1)", x.nodeOf(0, 1), 1);
        Check.same("nodeOf(1, 0)", x.nodeOf(1, 0), 1);
        Check.same("nodeOf(1, 1)", x.nodeOf(1, 1), 2);
        Check.same("nodeOf(1, 2)", x.nodeOf(1, 2), 3);
        x.fail(3);
        Check.same("nodeOf a missing shard", x.nodeOf(1, 2), 3);
        Check.outside("nodeOf(0, 2)", () -> x.nodeOf(0, 2));
        Check.outside("nodeOf(1, 3)", () -> x.nodeOf(1, 3));
        Check.outside("nodeOf(1, -1)", () -> x.nodeOf(1, -1));
        Check.outside("nodeOf(2, 0)", () -> x.nodeOf(2, 0));
        Check.outside("nodeOf(-1, 0)", () -> x.nodeOf(-1, 0));
    }

    private static void missing() {
        RepairAuction x = Texts.loaded(Texts.SMALL);
        Check.same("missing(1) of none", x.missing(1), 0);
        x.fail(1);
        x.fail(3);
        x.drain(2, true);
        Check.same("missing(0)", x.missing(0), 2);
        Check.same("missing(1)", x.missing(1), 5);
        Check.outside("missing(2)", () -> x.missing(2));
        Check.outside("missing(-1)", () -> x.missing(-1));
    }

    private static void zonesOf() {
        RepairAuction x = Texts.loaded(Texts.SMALL);
        Check.same("zonesOf(0)", x.zonesOf(0), 2);
        Check.same("zonesOf(1)", x.zonesOf(1), 3);
        x.drain(1, true);
        Check.same("zonesOf with a draining node", x.zonesOf(1), 3);
        x.fail(1);
        Check.same("zonesOf counts available shards alone", x.zonesOf(1), 2);
        x.fail(0);
        Check.same("zonesOf a group without shards", x.zonesOf(0), 0);
        x.recover(0);
        x.move(0, 0, 3);
        Check.same("zonesOf behind a move", x.zonesOf(0), 1);
        x.recover(1);
        x.move(0, 1, 0);
        Check.same("zonesOf counts a zone once", x.zonesOf(0), 1);
        Check.outside("zonesOf(2)", () -> x.zonesOf(2));
        Check.outside("zonesOf(-1)", () -> x.zonesOf(-1));
    }

    private static void damagedAndLost() {
        RepairAuction x = Texts.loaded(Texts.SMALL);
        Check.same("damaged of none", x.damaged(), 0);
        Check.same("lost of none", x.lost(), 0);
        x.fail(3);
        Check.same("damaged gb", x.damaged(), 2);
        x.drain(0, true);
        Check.same("draining damages nothing", x.damaged(), 2);
        x.fail(1);
        Check.same("damaged both", x.damaged(), 3);
        Check.same("lost gb", x.lost(), 2);
        x.fail(0);
        Check.same("lost both", x.lost(), 3);
        Check.same("a lost group is damaged, too", x.damaged(), 3);
        x.recover(3);
        Check.same("not lost any more", x.lost(), 1);
    }
}
