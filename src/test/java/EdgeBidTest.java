/** The edges that section 4 and promises 26 to 33 name, sentence by sentence. */
final class EdgeBidTest {
    private static final int NONE = RepairAuction.NONE;
    private static final String POOR = Texts.tenant("t", 0, 0);
    private static final String RICH = Texts.tenant("t", 999999, 999999);

    private EdgeBidTest() {
    }

    static void run() {
        cost();
        progress();
        need();
        offers();
        bidsIfDamaged();
        bidsIfNeedy();
        bidsIfPlaced();
        bidsIfOffering();
        order();
        offer();
        bids();
        target();
        bidder();
        outcome();
        clearingPrice();
        bandwidth();
        nextRound();
        Sentence.end();
    }

    /** Groups of two shards on a and b (see FOUR), of which b is down. */
    private static RepairAuction damaged(String ring, String tenantsAndGroups) {
        RepairAuction x = Texts.loaded(ring + Texts.FOUR + tenantsAndGroups);
        x.fail(1);
        return x;
    }

    private static String free(int bandwidth) {
        return Texts.ring(bandwidth, 0, 0, "first");
    }

    /**
     * g (offer 1) and h (offer 2) miss shards on b, and g one on c, too; there is only one place for
     * them, on d. h took it in a round, and g has 8 units, those of two repairs. e is draining.
     */
    private static RepairAuction narrow() {
        RepairAuction x = Texts.loaded(free(99) + Texts.node("a", 0, 0, 1, 9) + Texts.node("b", 10, 1, 0, 9) + Texts.node("c", 20, 2, 0, 9)
                + Texts.node("d", 30, 3, 0, 1) + Texts.node("e", 40, 4, 0, 9) + RICH + Texts.group("g", "t", 0, 1, 2, 2, 1)
                + Texts.group("h", "t", 0, 1, 1, 2, 2));
        x.fail(1);
        x.fail(2);
        x.drain(4, true);
        Check.same("the round sells 12 units", x.round(), 12);
        Check.same("g's units", x.group(0, 6), 8);
        return x;
    }

    private static void cost() {
        Sentence.of(0, "4. BIDS. The cost of repairing one shard is (data + 1) * size units.");
        for (int data = 1; data <= 6; data++) {
            for (int size = 1; size <= 100; size += 33) {
                RepairAuction x = Texts.loaded(free(1) + Texts.nodes(10, 0, 9) + POOR + Texts.group("g", "t", 0, data, 4, size, 1));
                Check.same("cost", x.group(0, 7), (data + 1) * size);
            }
        }
    }

    private static void progress() {
        Sentence.of(0, "A group has a progress (0 units at first): units that were bought for it and not used up yet.");
        RepairAuction x = damaged(free(3), RICH + Texts.pair("g", "t", 2, 1));
        Check.same("at first", x.group(0, 6), 0);
        x.round();
        Check.same("bought", x.group(0, 6), 3);
        x.round();
        Check.same("used up", x.group(0, 6), 0);
        Check.same("for a repair", x.damaged(), 0);
    }

    private static void need() {
        Sentence.of(0, "Its need is the number of missing shards times the cost, minus its progress, but at least 0.");
        RepairAuction x = Texts.loaded(free(3) + Texts.nodes(10, 1, 9) + RICH + Texts.group("g", "t", 0, 6, 4, 100, 1));
        for (int down = 0; down <= 10; down++) {
            Check.same("need with " + down + " missing", x.group(0, 8), down * 700);
            if (down < 10) {
                x.fail(down);
            }
        }
        RepairAuction y = damaged(free(3), RICH + Texts.pair("g", "t", 2, 1));
        Check.same("no progress", y.group(0, 8), 4);
        y.round();
        Check.same("a progress of 3", y.group(0, 8), 1);
        y.recover(1);
        Check.same("nothing is missing", y.group(0, 8), 0);
        RepairAuction z = narrow();
        Check.same("the progress is just enough for two", z.group(0, 8), 0);
        z.recover(2);
        Check.same("it is more than enough for one", z.group(0, 8), 0);
        z.fail(0);
        z.fail(2);
        Check.same("it is not enough for three", z.group(0, 8), 4);
    }

    private static int offerOf(int value, int risk, int otherRisk, boolean fails) {
        RepairAuction x = Texts.loaded(free(1) + Texts.node("a", 0, 0, risk, 9) + Texts.node("b", 10, 1, otherRisk, 9) + POOR
                + Texts.pair("g", "t", 1, value));
        if (fails) {
            x.fail(1);
        }
        return x.offer(0);
    }

    private static void offers() {
        Sentence.of(0, "The price per unit that a group offers is value * loss / 1000000 (rounded down), but at most 9999.");
        Check.same("1 * 1000000 / 1000000", offerOf(1, 1, 0, true), 1);
        Check.same("1 * 999000 / 1000000", offerOf(1, 1, 999, false), 0);
        Check.same("2 * 999000 / 1000000", offerOf(2, 1, 999, false), 1);
        Check.same("9001 * 999000 / 1000000", offerOf(9001, 1, 999, false), 8991);
        Check.same("9999 * 1000000 / 1000000", offerOf(9999, 1, 0, true), 9999);
        Check.same("4999 * 2000000 / 1000000", offerOf(4999, 2, 0, true), 9998);
        Check.same("5000 * 2000000 / 1000000, but at most 9999", offerOf(5000, 2, 0, true), 9999);
        Check.same("9999 * 999000000 / 1000000, but at most 9999", offerOf(9999, 999, 0, true), 9999);
        Check.same("9999 * 0 / 1000000", offerOf(9999, 0, 999, false), 0);
        Check.same("10 * 999000000 / 1000000", offerOf(10, 999, 0, true), 9990);
        Check.same("11 * 999000000 / 1000000, but at most 9999", offerOf(11, 999, 0, true), 9999);
    }

    private static void bidsIfDamaged() {
        Sentence.of(0, "A group bids if it is damaged and not lost,");
        RepairAuction x = Texts.loaded(free(9) + Texts.nodes(8, 1, 9) + RICH + Texts.group("g", "t", 0, 2, 2, 1, 9999));
        Check.yes("whole", !x.bids(0));
        x.fail(0);
        Check.yes("one of four is missing", x.bids(0));
        x.fail(1);
        Check.yes("two of four", x.bids(0));
        x.fail(2);
        Check.yes("three of four: lost", !x.bids(0));
        Check.yes("although there is a node for it", x.target(0) != NONE);
        x.recover(2);
        Check.yes("two of four again", x.bids(0));
    }

    private static void bidsIfNeedy() {
        Sentence.of(0, "its need is greater than 0,");
        RepairAuction x = narrow();
        x.drain(4, false);
        Check.same("there is a place", x.target(0), 4);
        Check.same("and an offer", x.offer(0), 1);
        Check.yes("but no need", !x.bids(0));
        RepairAuction y = damaged(free(3), RICH + Texts.pair("g", "t", 2, 1));
        y.round();
        Check.same("a need of 1", y.group(0, 8), 1);
        Check.yes("is enough", y.bids(0));
    }

    private static void bidsIfPlaced() {
        Sentence.of(0, "its first missing shard (the one with the lowest number) can be placed, from the position of its node plus 1 on,");
        RepairAuction x = damaged(free(9), RICH + Texts.pair("g", "t", 1, 1));
        Check.yes("on c", x.bids(0));
        x.drain(2, true);
        Check.yes("on d", x.bids(0));
        x.drain(3, true);
        Check.yes("on none", !x.bids(0));
        x.recover(1);
        x.drain(2, false);
        x.move(0, 1, 2);
        x.fail(2);
        Check.same("around the ring, from behind c", x.target(0), 1);
        Check.yes("on b", x.bids(0));
        // Shards 0 to 2 are on d, a and c; behind a comes b, behind c comes e, behind d comes f.
        RepairAuction y = Texts.loaded(free(9) + Texts.node("a", 0, 0, 1, 9) + Texts.node("b", 10, 5, 0, 9) + Texts.node("c", 20, 0, 0, 9)
                + Texts.node("e", 30, 5, 0, 9) + Texts.node("d", 40, 0, 1, 9) + Texts.node("f", 50, 5, 0, 9) + RICH
                + Texts.group("g", "t", 40, 1, 2, 1, 9));
        Check.same("shard 0", y.nodeOf(0, 0), 4);
        Check.same("shard 1", y.nodeOf(0, 1), 5);
        y.move(0, 2, 2);
        y.move(0, 1, 0);
        y.fail(0);
        Check.same("shard 1 is the first one: from behind a", y.target(0), 1);
        y.fail(2);
        Check.same("still", y.target(0), 1);
        y.recover(0);
        Check.same("shard 2 is the first one: from behind c", y.target(0), 3);
    }

    private static void bidsIfOffering() {
        Sentence.of(0, "and its offer is at least 1 and at least the reserve price.");
        for (int reserve : new int[] {0, 1, 2, 9999}) {
            for (int value : new int[] {1, 2, 3, 9998, 9999}) {
                RepairAuction x = damaged(Texts.ring(9, 0, reserve, "first"), RICH + Texts.pair("g", "t", 1, value));
                Check.same("an offer", x.offer(0), value);
                Check.yes("an offer of " + value + " and a reserve price of " + reserve, x.bids(0) == value >= reserve);
                x.setRisk(0, 0);
                Check.yes("an offer of 0", !x.bids(0));
            }
        }
    }

    private static void order() {
        Sentence.of(0, "The order of the bids is that of descending offers, with equal ones that of the numbers of the groups.");
        int[] values = {5, 9, 7, 5, 9, 1, 9999, 1, 9999, 5};
        int[] due = {6, 8, 1, 4, 2, 0, 3, 9, 5, 7, NONE};
        StringBuilder groups = new StringBuilder(RICH);
        for (int group = 0; group < 10; group++) {
            groups.append(Texts.pair("" + (char) ('g' + group), "t", 1, values[group]));
        }
        RepairAuction x = damaged(free(9), groups.toString());
        for (int place = 0; place <= 10; place++) {
            Check.same("bidder(" + place + ")", x.bidder(place), due[place]);
        }
        RepairAuction y = damaged(free(9), RICH + Texts.pair("g", "t", 1, 11) + Texts.pair("h", "t", 1, 9999) + Texts.pair("i", "t", 1, 10));
        Check.same("h offers most", y.bidder(0), 1);
        y.setRisk(0, 999);
        int[] capped = {0, 1, 2};
        for (int place = 0; place < 3; place++) {
            Check.same("offers of 9999, 9999 and 9990", y.bidder(place), capped[place]);
        }
    }

    private static void offer() {
        Sentence.of(26, "Returns the price per unit that the group offers (section 4), whether it bids or not.");
        RepairAuction x = Texts.loaded(Texts.ring(9, 0, 8, "first") + Texts.FOUR + RICH + Texts.pair("g", "t", 1, 7));
        x.setRisk(1, 999);
        Check.same("a whole group", x.offer(0), 6);
        x.fail(1);
        Check.same("a group below the reserve price", x.offer(0), 7);
        Check.yes("which does not bid", !x.bids(0));
        x.fail(0);
        Check.same("a lost group", x.offer(0), 7000);
        Check.outside("offer(1)", () -> x.offer(1));
        Check.outside("offer(-1)", () -> x.offer(-1));
    }

    private static void bids() {
        Sentence.of(27, "Returns true if the group would bid now.");
        RepairAuction x = damaged(free(9), POOR + Texts.pair("g", "t", 1, 1) + Texts.group("h", "t", 20, 1, 1, 1, 1));
        Check.yes("a damaged group, even without a credit", x.bids(0));
        Check.yes("a whole one", !x.bids(1));
        Check.outside("bids(2)", () -> x.bids(2));
        Check.outside("bids(-1)", () -> x.bids(-1));
    }

    private static void target() {
        Sentence.of(28, "Returns the node on which its first missing shard would be placed now; NONE if there is no such node or no missing shard.");
        RepairAuction x = Texts.loaded(free(9) + Texts.FOUR + RICH + Texts.pair("g", "t", 1, 1));
        Check.same("no missing shard", x.target(0), NONE);
        x.fail(0);
        Check.same("shard 0 would be placed", x.target(0), 2);
        x.fail(2);
        x.fail(3);
        Check.same("no such node", x.target(0), NONE);
        x.fail(1);
        Check.same("a lost group without a node", x.target(0), NONE);
        x.recover(3);
        Check.same("a lost group with one", x.target(0), 3);
        Check.outside("target(1)", () -> x.target(1));
        Check.outside("target(-1)", () -> x.target(-1));
    }

    private static void bidder() {
        Sentence.of(29, "- `place`: place in the order of the bids that would be made now, from 0",
                "Returns the group at this place; NONE if there are not so many bids.");
        RepairAuction x = damaged(free(9), RICH + Texts.pair("g", "t", 1, 1) + Texts.pair("h", "t", 1, 2));
        Check.same("the first one", x.bidder(0), 1);
        Check.same("the last one", x.bidder(1), 0);
        Check.same("one more", x.bidder(2), NONE);
        Check.same("far more", x.bidder(Integer.MAX_VALUE), NONE);
        x.recover(1);
        Check.same("no bids", x.bidder(0), NONE);
        Check.same("without groups", new RepairAuction().bidder(0), NONE);
        Sentence.of(29, "Throws `IllegalArgumentException` if place is negative");
        Check.illegal("bidder(-1)", () -> x.bidder(-1));
        Check.illegal("bidder(min)", () -> x.bidder(Integer.MIN_VALUE));
        Check.illegal("bidder(-1) without groups", () -> new RepairAuction().bidder(-1));
    }

    private static void outcome() {
        Sentence.of(30, "- `what`: 0 the units that the group would get in a round now (with the purses and bandwidth at hand in that round);",
                "Returns that value.");
        RepairAuction x = damaged(Texts.ring(9, 1, 0, "first"), Texts.tenant("t", 6, 9) + Texts.pair("g", "t", 4, 3));
        Check.same("the income pays for two", x.outcome(0, 0), 2);
        x.grant(0, 2);
        Check.same("two credits more are too few", x.outcome(0, 0), 2);
        x.grant(0, 1);
        Check.same("three credits more pay for a third one", x.outcome(0, 0), 3);
        x.setBandwidth(2);
        Check.same("the bandwidth is two", x.outcome(0, 0), 2);
        x.setBandwidth(9);
        x.grant(0, 99);
        Check.same("the need is eight", x.outcome(0, 0), 8);
        x.setBandwidth(5);
        x.recover(1);
        Check.same("no bid", x.outcome(0, 0), 0);
        x.round();
        x.fail(1);
        Check.same("one unit is carried over", x.outcome(0, 0), 6);
        Check.same("nothing has changed", x.group(0, 6), 0);
        Sentence.of(30, "1 the price per unit that it would pay, 0 if it would get none");
        RepairAuction y = damaged(Texts.ring(3, 0, 2, "second"), RICH + Texts.tenant("u", 0, 0) + Texts.pair("g", "t", 1, 9)
                + Texts.pair("h", "u", 1, 7) + Texts.pair("i", "t", 1, 5) + Texts.group("j", "t", 20, 1, 1, 1, 9));
        int[] prices = {7, 0, 2, 0};
        for (int group = 0; group < 4; group++) {
            Check.same("outcome(" + group + ", 1)", y.outcome(group, 1), prices[group]);
        }
        Check.illegal("outcome(0, 2)", () -> y.outcome(0, 2));
        Check.illegal("outcome(0, -1)", () -> y.outcome(0, -1));
        Check.outside("outcome(4, 2)", () -> y.outcome(4, 2));
        Check.outside("outcome(-1, 0)", () -> y.outcome(-1, 0));
    }

    private static void clearingPrice() {
        Sentence.of(31, "Returns the clearing price that a round would have now.");
        Check.same("before the first load()", new RepairAuction().clearingPrice(), 0);
        RepairAuction x = Texts.loaded(Texts.ring(1, 0, 4, "first") + Texts.FOUR + Texts.tenant("t", 7, 99) + Texts.pair("g", "t", 1, 7));
        Check.same("no bids", x.clearingPrice(), 4);
        x.fail(1);
        Check.same("the income pays for the one unit", x.clearingPrice(), 4);
        x.grant(0, 6);
        Check.same("a credit is missing for a second one", x.clearingPrice(), 4);
        x.grant(0, 1);
        Check.same("the second one could be paid", x.clearingPrice(), 7);
        int due = x.clearingPrice();
        x.round();
        Check.same("the round has it", x.history(0, 2), due);
    }

    private static void bandwidth() {
        Sentence.of(32, "Returns the bandwidth at hand in the next round.");
        RepairAuction x = Texts.loaded(Texts.ring(99999, 99999, 0, "first"));
        Check.same("at first", x.bandwidth(), 99999);
        x.round();
        Check.same("the greatest one", x.bandwidth(), 199998);
        x.round();
        Check.same("carried but once", x.bandwidth(), 199998);
        x.setBandwidth(1);
        Check.same("what is carried stays", x.bandwidth(), 100000);
        x.round();
        Check.same("all of it is carried, up to the carry", x.bandwidth(), 100000);
        Check.same("before the first load()", new RepairAuction().bandwidth(), 1);
    }

    private static void nextRound() {
        Sentence.of(33, "Returns the number of the next round.");
        RepairAuction x = new RepairAuction();
        Check.same("at first", x.nextRound(), 0);
        x.round();
        Check.same("behind a round", x.nextRound(), 1);
        x.rounds(100);
        Check.same("behind a hundred more", x.nextRound(), 101);
        x.undo();
        Check.same("behind undo()", x.nextRound(), 1);
        Texts.load(x, free(1));
        Check.same("behind load()", x.nextRound(), 0);
        x.undo();
        Check.same("behind undo() of load()", x.nextRound(), 1);
    }
}
