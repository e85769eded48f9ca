/** Promises 37 and 38 and section 5: what a round changes. */
final class RoundTest {
    private RoundTest() {
    }

    static void run() {
        purses();
        unitsAndPrices();
        partsOfARepair();
        carry();
        severalShards();
        noPlaceInTheRound();
        progressWithoutBid();
        sealedBids();
        rounds();
        paidIsLimited();
    }

    private static void purses() {
        RepairAuction x = Texts.loaded(Texts.SMALL);
        x.rounds(4);
        Check.same("income", x.tenant(0, 2), 4000);
        x.rounds(2);
        Check.same("the greatest purse", x.tenant(0, 2), 5000);
        x.grant(0, 1);
        x.round();
        Check.same("a greater purse stays", x.tenant(0, 2), 5001);
        Check.same("no income", x.tenant(1, 2), 0);
    }

    private static void round(RepairAuction x, int sold, int price, int bids, int repaired) {
        Check.same("round", x.round(), sold);
        int last = x.historySize() - 1;
        Check.same("units sold", x.history(last, 1), sold);
        Check.same("clearing price", x.history(last, 2), price);
        Check.same("number of bids", x.history(last, 3), bids);
        Check.same("repaired shards", x.history(last, 4), repaired);
    }

    private static void unitsAndPrices() {
        int[][] purses = {{143000 - 100 - 4 * 9999 - 26 * 300}, {143000 - 10 - 4 * 300 - 20 * 300 - 6 * 100},
            {143000 - 31 * 100}};
        for (int rule = 0; rule < 3; rule++) {
            RepairAuction x = Texts.loaded(BidTest.MARKET.replace("of u key", "of t key"));
            x.fail(0);
            x.grant(0, 143000);
            x.setBandwidth(31);
            x.setRule(rule);
            round(x, 31, 100, 4, 3);
            Check.same("purse with rule " + rule, x.tenant(0, 2), purses[rule][0]);
            Check.same("paid with rule " + rule, x.tenant(0, 4), 143000 - purses[rule][0]);
            Check.same("bought with rule " + rule, x.tenant(0, 3), 31);
            Check.same("f has a part", x.group(0, 6), 1);
            Check.same("g is whole", x.missing(1), 0);
            Check.same("g has used its units up", x.group(1, 6), 0);
            round(x, 3, 10, 1, 1);
            Check.same("f is whole", x.damaged(), 0);
        }
    }

    private static void partsOfARepair() {
        RepairAuction x = Texts.loaded(Texts.SMALL);
        x.fail(1);
        x.setBandwidth(6);
        x.grant(0, 100000);
        round(x, 6, 2000, 2, 0);
        Check.same("progress", x.group(0, 6), 6);
        round(x, 6, 2000, 2, 0);
        round(x, 6, 2000, 2, 0);
        Check.same("need", x.group(0, 8), 2);
        round(x, 2, 5, 2, 1);
        Check.same("progress is used up", x.group(0, 6), 0);
        Check.same("the new node", x.nodeOf(0, 1), 2);
        Check.same("the old node's shards", x.node(1, 4), 1);
        Check.same("the new node's shards", x.node(2, 4), 2);
    }

    private static void carry() {
        RepairAuction x = Texts.loaded(Texts.SMALL);
        x.fail(1);
        x.grant(0, 100000);
        x.round();
        Check.same("carry is limited", x.bandwidth(), 130);
        x.setBandwidth(1);
        Check.same("what is carried stays", x.bandwidth(), 31);
        x.recover(1);
        x.round();
        Check.same("carried from what was carried", x.bandwidth(), 31);
        x.grant(1, 999999);
        x.fail(1);
        round(x, 15, 5, 1, 1);
        Check.same("what is left is carried", x.bandwidth(), 17);
    }

    private static void severalShards() {
        RepairAuction x = Texts.loaded("ring bandwidth 100 carry 0 reserve 0 price first;"
                + "node a at 0 zone 0 risk 100 room 9;node b at 1 zone 1 risk 0 room 9;node c at 2 zone 2 risk 0 room 9;"
                + "node d at 3 zone 3 risk 0 room 9;node e at 4 zone 4 risk 0 room 9;node f at 5 zone 0 risk 0 room 9;"
                + "tenant t income 999999 most 999999;group g of t key 0 data 1 parity 2 size 3 value 10;");
        x.fail(1);
        x.fail(2);
        Check.same("need of two shards", x.group(0, 8), 12);
        x.setBandwidth(7);
        round(x, 7, 1000, 1, 1);
        Check.same("shard 1 goes first", x.nodeOf(0, 1), 3);
        Check.same("shard 2 is missing", x.missing(0), 4);
        Check.same("the rest is progress", x.group(0, 6), 1);
        x.undo();
        x.setBandwidth(12);
        round(x, 12, 0, 1, 2);
        Check.same("shard 1", x.nodeOf(0, 1), 3);
        Check.same("shard 2 is behind that", x.nodeOf(0, 2), 4);
    }

    /** Both groups bid for the one place that is left, and the second one keeps its units. */
    private static final String NARROW = "ring bandwidth 100 carry 0 reserve 0 price first;"
            + "node a at 0 zone 0 risk 100 room 2;node b at 1 zone 1 risk 0 room 2;node c at 2 zone 2 risk 0 room 1;"
            + "tenant t income 999999 most 999999;group g of t key 0 data 1 parity 1 size 2 value 10;"
            + "group h of t key 0 data 1 parity 1 size 2 value 20;";

    private static void noPlaceInTheRound() {
        RepairAuction x = Texts.loaded(NARROW);
        x.fail(1);
        round(x, 8, 0, 2, 1);
        Check.same("h went first", x.nodeOf(1, 1), 2);
        Check.same("g found no place", x.nodeOf(0, 1), 1);
        Check.same("g keeps its units", x.group(0, 6), 4);
        Check.same("g needs no more", x.group(0, 8), 0);
        round(x, 0, 0, 0, 0);
    }

    private static void progressWithoutBid() {
        RepairAuction x = Texts.loaded("ring bandwidth 100 carry 0 reserve 0 price first;"
                + "node a at 0 zone 0 risk 100 room 9;node b at 1 zone 1 risk 100 room 9;"
                + "node c at 2 zone 2 risk 100 room 9;node d at 3 zone 3 risk 100 room 1;"
                + "node e at 4 zone 4 risk 100 room 9;tenant t income 0 most 0;tenant u income 999999 most 999999;"
                + "group g of t key 0 data 1 parity 2 size 2 value 10;"
                + "group h of u key 0 data 1 parity 2 size 2 value 20;");
        x.drain(4, true);
        x.fail(1);
        x.grant(0, 400);
        round(x, 8, 0, 2, 1);
        Check.same("g has the units for a repair", x.group(0, 6), 4);
        x.drain(4, false);
        Check.same("g could be placed now", x.target(0), 4);
        round(x, 0, 0, 0, 0);
        Check.same("but it does not bid", x.missing(0), 2);
        x.fail(2);
        round(x, 4, 0, 2, 2);
        Check.same("g got no units, but was placed with those that it had", x.nodeOf(0, 1), 4);
        Check.same("these are used up", x.group(0, 6), 0);
        Check.same("its other shard is missing", x.missing(0), 4);
        Check.same("h was placed, too", x.nodeOf(1, 2), 4);
    }

    private static void sealedBids() {
        RepairAuction x = Texts.loaded(NARROW);
        x.fail(1);
        x.setBandwidth(5);
        round(x, 5, 1000, 2, 1);
        Check.same("g has a unit", x.group(0, 6), 1);
        round(x, 0, 0, 0, 0);
        Check.yes("g does not bid without a target", !x.bids(0));
        x.recover(1);
        Check.same("g is whole and keeps its progress", x.group(0, 6), 1);
    }

    private static void rounds() {
        RepairAuction x = Texts.loaded(Texts.SMALL);
        x.fail(1);
        x.grant(1, 999999);
        Check.same("rounds(1) repairs gb", x.rounds(1), 1);
        Check.same("rounds(100) repairs ga", x.rounds(100), 1);
        Check.same("rounds(3) repairs nothing", x.rounds(3), 0);
        Check.same("nextRound", x.nextRound(), 104);
        Check.same("each of them is one call for undo()", x.undoCount(), 6);
        x.undo();
        x.undo();
        Check.same("nextRound behind undo", x.nextRound(), 1);
        Check.illegal("rounds(0)", () -> x.rounds(0));
        Check.illegal("rounds(101)", () -> x.rounds(101));
        Check.illegal("rounds(-1)", () -> x.rounds(-1));
        Check.same("nextRound is as it was", x.nextRound(), 1);
    }

    /** Lets four shards of each of the ten groups be repaired, for 28000 units at 9999. */
    static void repairForty(RepairAuction x) {
        int[] nodes = {x.nodeOf(0, 0), x.nodeOf(0, 1), x.nodeOf(0, 2), x.nodeOf(0, 3)};
        for (int node : nodes) {
            x.fail(node);
        }
        int repaired = x.rounds(100) + x.rounds(100) + x.rounds(100);
        Check.same("forty shards", repaired, 40);
        for (int node : nodes) {
            x.recover(node);
        }
    }

    private static void paidIsLimited() {
        RepairAuction x = Texts.loaded(Texts.large());
        for (int times = 1; times <= 8; times++) {
            repairForty(x);
            Check.same("bought so far", x.tenant(0, 3), times * 28000);
            Check.same("paid so far", x.tenant(0, 4), Math.min(times * 28000L * 9999L, 2000000000L));
        }
        x.fail(x.nodeOf(0, 0));
        Check.same("what is still to pay is not limited by that", x.paidUntilCalm(), 7000 * 9999);
    }
}
