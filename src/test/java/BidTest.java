/** Promises 26 to 33 and sections 4 and 5 c and d: bids, their order, units and prices. */
final class BidTest {
    /** With a down, the offers are: f 100, g 9999, h 300, i 300; the costs are 4, 4, 20 and 6 units. */
    static final String MARKET = "ring bandwidth 20 carry 5 reserve 10 price second;"
            + "node a at 0 zone 0 risk 500 room 50;node b at 100 zone 1 risk 100 room 50;"
            + "node c at 200 zone 2 risk 0 room 50;"
            + "tenant t income 3000 most 40000;tenant u income 100 most 4000;"
            + "group f of t key 0 data 1 parity 1 size 2 value 1;"
            + "group g of t key 0 data 1 parity 1 size 2 value 100;"
            + "group h of t key 0 data 1 parity 1 size 10 value 3;"
            + "group i of u key 0 data 1 parity 1 size 3 value 3;";

    private BidTest() {
    }

    static void run() {
        offer();
        bids();
        target();
        bidder();
        outcomeByPurse();
        outcomeByBandwidth();
        clearingPrice();
        prices();
        bandwidthAndNextRound();
    }

    private static void offer() {
        RepairAuction x = Texts.loaded(Texts.SMALL);
        Check.same("offer(0), not bidding", x.offer(0), 400);
        Check.same("offer(1) is at most 9999", x.offer(1), 9999);
        x.fail(1);
        Check.same("offer(0)", x.offer(0), 2000);
        x.fail(0);
        Check.same("offer of a lost group", x.offer(0), 9999);
        x.setRisk(3, 0);
        Check.same("offer without loss", x.offer(1), 0);
        Check.outside("offer(2)", () -> x.offer(2));
        Check.outside("offer(-1)", () -> x.offer(-1));
        RepairAuction low = Texts.loaded(Texts.RING
                + "node a at 0 zone 0 risk 19 room 1;node b at 1 zone 0 risk 100 room 1;tenant t income 0 most 0;"
                + "group g of t key 0 data 1 parity 1 size 1 value 3;");
        Check.same("offer is rounded down: 5.7", low.offer(0), 5);
    }

    private static void bids() {
        RepairAuction x = Texts.loaded(Texts.SMALL);
        Check.yes("a whole group does not bid", !x.bids(0));
        x.fail(1);
        Check.yes("a damaged group bids", x.bids(0));
        Check.yes("so does one without credits", x.bids(1));
        x.setRisk(0, 0);
        Check.yes("offer 0 is no bid", !x.bids(0));
        x.setRisk(3, 1);
        Check.yes("the offer is great enough", x.bids(1));
        x.fail(3);
        Check.yes("a lost group does not bid", !x.bids(1));
        Check.outside("bids(2)", () -> x.bids(2));
        Check.outside("bids(-1)", () -> x.bids(-1));
        String head = "node a at 0 zone 0 risk 1 room 1;node b at 1 zone 0 risk 0 room 1;node c at 2 zone 0 risk 0 room 1;"
                + "tenant t income 0 most 0;group g of t key 0 data 1 parity 1 size 1 value 5;";
        RepairAuction at = Texts.loaded("ring bandwidth 1 carry 0 reserve 5 price first;" + head);
        at.fail(1);
        Check.yes("an offer of the reserve price is a bid", at.bids(0));
        at.drain(2, true);
        Check.yes("without a target there is no bid", !at.bids(0));
        RepairAuction below = Texts.loaded("ring bandwidth 1 carry 0 reserve 6 price first;" + head);
        below.fail(1);
        Check.yes("an offer below the reserve price is none", !below.bids(0));
        RepairAuction free = Texts.loaded("ring bandwidth 1 carry 0 reserve 0 price first;" + head);
        free.fail(1);
        Check.yes("a reserve price of 0", free.bids(0));
        RepairAuction one = Texts.loaded("ring bandwidth 1 carry 0 reserve 0 price first;" + head.replace("value 5", "value 1"));
        one.fail(1);
        one.grant(0, 1);
        Check.same("an offer of 1", one.offer(0), 1);
        Check.yes("is a bid", one.bids(0));
        Check.same("it is made", one.bidder(0), 0);
        Check.same("it gets a unit", one.outcome(0, 0), 1);
        Check.same("it pays for it", one.outcome(0, 1), 1);
        free.setRisk(0, 0);
        Check.yes("an offer of 0 is no bid even then", !free.bids(0));
    }

    private static void target() {
        RepairAuction x = Texts.loaded(Texts.SMALL);
        Check.same("target of a whole group", x.target(0), RepairAuction.NONE);
        x.fail(1);
        Check.same("target(0)", x.target(0), 2);
        Check.same("target(1) is in a zone of the group for want of others", x.target(1), 0);
        x.fail(2);
        Check.same("target(0) in the zone of its other shard", x.target(0), 3);
        Check.same("target of a lost group", x.target(1), 0);
        x.fail(3);
        Check.same("no target", x.target(0), RepairAuction.NONE);
        Check.outside("target(2)", () -> x.target(2));
        Check.outside("target(-1)", () -> x.target(-1));
    }

    private static void bidder() {
        RepairAuction x = Texts.loaded(MARKET);
        Check.same("no bids", x.bidder(0), RepairAuction.NONE);
        x.fail(0);
        int[] due = {1, 2, 3, 0, RepairAuction.NONE};
        for (int place = 0; place < due.length; place++) {
            Check.same("bidder(" + place + ")", x.bidder(place), due[place]);
        }
        Check.same("bidder(max)", x.bidder(Integer.MAX_VALUE), RepairAuction.NONE);
        Check.illegal("bidder(-1)", () -> x.bidder(-1));
        Check.illegal("bidder(-1) of an empty ring", () -> new RepairAuction().bidder(-1));
    }

    private static void outcomes(RepairAuction x, int[] units, int[] prices) {
        for (int group = 0; group < units.length; group++) {
            Check.same("outcome(" + group + ", 0)", x.outcome(group, 0), units[group]);
            Check.same("outcome(" + group + ", 1)", x.outcome(group, 1), prices[group]);
        }
    }

    private static void outcomeByPurse() {
        RepairAuction x = Texts.loaded(MARKET);
        outcomes(x, new int[] {0, 0, 0, 0}, new int[] {0, 0, 0, 0});
        x.fail(0);
        outcomes(x, new int[] {0, 0, 10, 0}, new int[] {0, 0, 300, 0});
        x.grant(1, 499);
        x.grant(0, 17000);
        outcomes(x, new int[] {0, 2, 0, 1}, new int[] {0, 300, 0, 100});
        Check.same("nobody could pay for more: clearing price", x.clearingPrice(), 10);
        x.grant(0, 998);
        outcomes(x, new int[] {1, 2, 3, 1}, new int[] {10, 300, 300, 100});
        Check.outside("outcome(4, 0)", () -> x.outcome(4, 0));
        Check.outside("outcome(-1, 2)", () -> x.outcome(-1, 2));
        Check.illegal("outcome(0, 2)", () -> x.outcome(0, 2));
        Check.illegal("outcome(0, -1)", () -> x.outcome(0, -1));
        Check.same("outcome changes nothing", x.tenant(0, 2), 17998);
    }

    private static void outcomeByBandwidth() {
        RepairAuction x = Texts.loaded(MARKET);
        x.fail(0);
        x.grant(0, 100000);
        x.grant(1, 100000);
        outcomes(x, new int[] {0, 4, 16, 0}, new int[] {0, 300, 300, 0});
        x.setBandwidth(3);
        outcomes(x, new int[] {0, 3, 0, 0}, new int[] {0, 300, 0, 0});
        x.setBandwidth(25);
        outcomes(x, new int[] {0, 4, 20, 1}, new int[] {0, 300, 300, 100});
        x.setBandwidth(34);
        outcomes(x, new int[] {4, 4, 20, 6}, new int[] {10, 300, 300, 100});
    }

    private static void clearingPrice() {
        RepairAuction x = Texts.loaded(MARKET);
        Check.same("clearing price without bids", x.clearingPrice(), 10);
        x.fail(0);
        x.grant(0, 100000);
        Check.same("h would pay for more", x.clearingPrice(), 300);
        x.setBandwidth(3);
        Check.same("g would pay for more", x.clearingPrice(), 9999);
        x.setBandwidth(4);
        Check.same("g has all, h gets none", x.clearingPrice(), 300);
        x.setBandwidth(24);
        Check.same("i cannot pay, f could", x.clearingPrice(), 100);
        x.setBandwidth(28);
        Check.same("all that can pay get all", x.clearingPrice(), 10);
        x.grant(1, 200);
        Check.same("i can pay for one unit, with the income, and gets it not", clearingWith(x, 24), 300);
        Check.same("i gets the one unit that it can pay for", clearingWith(x, 25), 100);
    }

    private static int clearingWith(RepairAuction x, int bandwidth) {
        x.setBandwidth(bandwidth);
        return x.clearingPrice();
    }

    private static void prices() {
        RepairAuction x = Texts.loaded(MARKET);
        x.fail(0);
        x.grant(0, 100000);
        x.grant(1, 100000);
        x.setBandwidth(31);
        x.setRule(0);
        outcomes(x, new int[] {1, 4, 20, 6}, new int[] {100, 9999, 300, 300});
        x.setRule(1);
        outcomes(x, new int[] {1, 4, 20, 6}, new int[] {10, 300, 300, 100});
        x.setRule(2);
        outcomes(x, new int[] {1, 4, 20, 6}, new int[] {100, 100, 100, 100});
        x.setBandwidth(50);
        outcomes(x, new int[] {4, 4, 20, 6}, new int[] {10, 10, 10, 10});
    }

    private static void bandwidthAndNextRound() {
        RepairAuction x = Texts.loaded(MARKET);
        Check.same("bandwidth", x.bandwidth(), 20);
        Check.same("nextRound", x.nextRound(), 0);
        x.round();
        Check.same("bandwidth with what is carried", x.bandwidth(), 25);
        Check.same("nextRound behind one", x.nextRound(), 1);
        x.rounds(100);
        Check.same("carried but once", x.bandwidth(), 25);
        Check.same("nextRound behind more", x.nextRound(), 101);
        x.setBandwidth(7);
        Check.same("bandwidth behind a change", x.bandwidth(), 12);
    }
}
