/** The edges that section 5 and promises 37 and 38 name, sentence by sentence. */
final class EdgeRoundTest {
    private static final int FIRST = 0;
    private static final int SECOND = 1;
    private static final int UNIFORM = 2;
    private static final String RICH = Texts.tenant("t", 999999, 999999);
    private static final String POOR = Texts.tenant("t", 0, 0);

    private EdgeRoundTest() {
    }

    static void run() {
        purses();
        bandwidthAtHand();
        sealedBids();
        unitsByNeedAndPurse();
        unitsBehindOthers();
        clearingPrice();
        firstGroupClears();
        noGroupClears();
        rules();
        purseDecreases();
        priceAtMostOffer();
        progressGrows();
        repairs();
        noPlace();
        onlyBidders();
        carry();
        history();
        numbers();
        noWayBack();
        progressStays();
        round();
        rounds();
        Sentence.end();
    }

    /** Groups of two shards on a and b (see FOUR), of which b is down. */
    private static RepairAuction damaged(String ring, String tenantsAndGroups) {
        RepairAuction x = Texts.loaded(ring + Texts.FOUR + tenantsAndGroups);
        x.fail(1);
        return x;
    }

    private static String free(int bandwidth) {
        return Texts.ring(bandwidth, 0, 0, "first");
    }

    private static void pursesInRounds(int income, int most, int granted, int... due) {
        RepairAuction x = Texts.loaded(free(1) + Texts.tenant("t", income, most));
        if (granted > 0) {
            x.grant(0, granted);
        }
        for (int purse : due) {
            Check.same("purse behind the next round", x.purseAfter(0, 1), purse);
            x.round();
            Check.same("purse with income " + income + ", most " + most, x.tenant(0, 2), purse);
        }
    }

    private static void purses() {
        Sentence.of(0, "5. A ROUND consists of these steps: a. The purse of each tenant grows by its income, up to its greatest purse "
                + "(a purse that is greater stays as it is).");
        pursesInRounds(10, 25, 0, 10, 20, 25, 25);
        pursesInRounds(10, 20, 0, 10, 20, 20);
        pursesInRounds(10, 19, 0, 10, 19, 19);
        pursesInRounds(30, 20, 0, 20, 20);
        pursesInRounds(0, 20, 0, 0, 0);
        pursesInRounds(20, 0, 0, 0, 0);
        pursesInRounds(999999, 999999, 0, 999999, 999999);
        pursesInRounds(1, 999999, 999998, 999999, 999999);
        pursesInRounds(10, 25, 24, 25, 25);
        pursesInRounds(10, 25, 25, 25);
        pursesInRounds(10, 25, 26, 26, 26);
        pursesInRounds(10, 0, 1, 1);
    }

    private static void bandwidthAtHand() {
        Sentence.of(0, "The bandwidth at hand is that of a round plus the one carried over.");
        RepairAuction x = Texts.loaded(Texts.ring(3, 2, 0, "first") + Texts.FOUR + RICH + Texts.pair("g", "t", 50, 1));
        x.round();
        x.fail(1);
        Check.same("three and the two that were carried over", x.round(), 5);
        Check.same("nothing is carried over", x.round(), 3);
    }

    /** h (offer 9) takes the one place that there is, on c, before g (offer 5) finds none. */
    private static RepairAuction narrow(int bandwidth) {
        RepairAuction x = Texts.loaded(free(bandwidth) + Texts.node("a", 0, 0, 1, 9) + Texts.node("b", 10, 1, 0, 9)
                + Texts.node("c", 20, 2, 0, 1) + Texts.node("d", 30, 3, 0, 9) + RICH + Texts.pair("g", "t", 1, 5) + Texts.pair("h", "t", 1, 9));
        x.drain(3, true);
        x.fail(1);
        return x;
    }

    private static void sealedBids() {
        Sentence.of(0, "b. All groups make their bids, which are sealed: they do not change in this round any more.");
        RepairAuction x = narrow(9);
        Check.same("h and g buy", x.round(), 4);
        Check.same("two bids", x.history(0, 3), 2);
        Check.same("h is placed, g is not any more", x.history(0, 4), 1);
        Check.same("g has paid, too", x.tenant(0, 4), 2 * 9 + 2 * 5);
        Check.same("and has its units", x.group(0, 6), 2);
    }

    /** What g gets of a need of 4 units with an offer of 3. */
    private static int units(int bandwidth, int purse) {
        return buyer(bandwidth, purse).outcome(0, 0);
    }

    private static RepairAuction buyer(int bandwidth, int purse) {
        RepairAuction x = damaged(Texts.ring(bandwidth, 0, 2, "first"), POOR + Texts.pair("g", "t", 2, 3));
        if (purse > 0) {
            x.grant(0, purse);
        }
        return x;
    }

    private static void unitsByNeedAndPurse() {
        Sentence.of(0, "c. In the order of the bids each group gets as many units as its need, the bandwidth that is left, "
                + "and what its tenant can pay allow:");
        Check.same("the need", units(99, 999), 4);
        Check.same("just the need's bandwidth", units(4, 999), 4);
        Check.same("a unit of bandwidth less", units(3, 999), 3);
        Check.same("one unit", units(1, 999), 1);
        Check.same("just the need's credits", units(99, 12), 4);
        Check.same("a credit less", units(99, 11), 3);
        Check.same("just a unit's credits", units(99, 3), 1);
        Check.same("a credit less than these", units(99, 2), 0);
        Check.same("no credits", units(99, 0), 0);
        for (int bandwidth = 1; bandwidth <= 5; bandwidth++) {
            for (int purse = 0; purse <= 16; purse++) {
                RepairAuction x = buyer(bandwidth, purse);
                int due = Math.min(Math.min(4, bandwidth), purse / 3);
                Check.same("sold with " + bandwidth + " units and " + purse + " credits", x.round(), due);
                Check.same("credits left", x.tenant(0, 2), purse - 3 * due);
            }
        }
    }

    /** What g (offer 10, need 2), h (offer 7, need 2, of another tenant) and i (offer 5, need 2) get. */
    private static void three(int bandwidth, int purse, int otherPurse, int g, int h, int i) {
        for (int rule = FIRST; rule <= UNIFORM; rule++) {
            RepairAuction x = damaged(free(bandwidth), POOR + Texts.tenant("u", 0, 0) + Texts.pair("i", "t", 1, 5)
                    + Texts.pair("h", "u", 1, 7) + Texts.pair("g", "t", 1, 10));
            x.setRule(rule);
            if (purse > 0) {
                x.grant(0, purse);
            }
            if (otherPurse > 0) {
                x.grant(1, otherPurse);
            }
            String with = " with rule " + rule + ", " + bandwidth + " units, purses " + purse + " and " + otherPurse;
            Check.same("units of g" + with, x.outcome(2, 0), g);
            Check.same("units of h" + with, x.outcome(1, 0), h);
            Check.same("units of i" + with, x.outcome(0, 0), i);
            Check.same("units sold" + with, x.round(), g + h + i);
        }
    }

    private static void unitsBehindOthers() {
        Sentence.of(0, "the purse, less offer * units of the groups of this tenant ahead in the order, divided by its offer (rounded down).");
        three(9, 30, 14, 2, 2, 2);
        three(9, 29, 14, 2, 2, 1);
        three(9, 25, 13, 2, 1, 1);
        three(9, 24, 7, 2, 1, 0);
        three(9, 20, 6, 2, 0, 0);
        three(9, 19, 0, 1, 0, 1);
        three(9, 10, 99, 1, 2, 0);
        three(9, 9, 99, 0, 2, 1);
        three(9, 4, 99, 0, 2, 0);
        three(6, 99, 99, 2, 2, 2);
        three(5, 99, 99, 2, 2, 1);
        three(3, 99, 99, 2, 1, 0);
        three(2, 99, 99, 2, 0, 0);
        three(1, 99, 99, 1, 0, 0);
        three(3, 99, 0, 2, 0, 1);
        three(9999, 999, 999, 2, 2, 2);
    }

    private static void clearingPrice() {
        Sentence.of(0, "The offer of the first group that gets less than its need although its tenant could pay for one unit more is the clearing price;");
        Check.same("two units, credits for three", buyer(2, 9).clearingPrice(), 3);
        Check.same("two units, a credit less", buyer(2, 8).clearingPrice(), 2);
        Check.same("three units, credits for four", buyer(3, 12).clearingPrice(), 3);
        Check.same("three units, a credit less", buyer(3, 11).clearingPrice(), 2);
        Check.same("four units, credits for more", buyer(4, 99).clearingPrice(), 2);
        Check.same("five units, credits for more", buyer(5, 99).clearingPrice(), 2);
    }

    private static int clearing(int bandwidth, int purse, int otherPurse) {
        RepairAuction x = damaged(Texts.ring(bandwidth, 0, 2, "first"), POOR + Texts.tenant("u", 0, 0) + Texts.pair("i", "t", 1, 5)
                + Texts.pair("h", "u", 1, 7) + Texts.pair("g", "t", 1, 10));
        x.grant(0, purse);
        x.grant(1, otherPurse);
        int price = x.clearingPrice();
        x.round();
        Check.same("the clearing price that was recorded", x.history(0, 2), price);
        return price;
    }

    private static void firstGroupClears() {
        Check.same("g gets one of two, h and i none", clearing(1, 99, 99), 10);
        Check.same("g gets all, h and i none", clearing(2, 99, 99), 7);
        Check.same("h gets one", clearing(3, 99, 99), 7);
        Check.same("h gets all, i none", clearing(4, 99, 99), 5);
        Check.same("h cannot pay at all, i gets one", clearing(3, 99, 6), 5);
        Check.same("h cannot pay for the second one, i gets none", clearing(3, 99, 13), 5);
        Check.same("g cannot pay for the second one, h gets one", clearing(2, 19, 99), 7);
        Check.same("a credit more: g gets two", clearing(2, 20, 99), 7);
        Check.same("g and h get all, and i's five credits are there", clearing(4, 25, 99), 5);
    }

    private static void noGroupClears() {
        Sentence.of(0, "without such a group it is the reserve price.");
        Check.same("g and h get all, a credit is missing for i", clearing(4, 24, 99), 2);
        Check.same("all get all", clearing(6, 99, 99), 2);
        Check.same("nobody can pay", clearing(6, 4, 6), 2);
        Check.same("no bids", Texts.loaded(Texts.ring(1, 0, 9999, "uniform")).clearingPrice(), 9999);
    }

    /** The prices of g, h and i (offers 10, 7 and 5, needs of 2 units each) with a reserve price. */
    private static void prices(int rule, int reserve, int bandwidth, int... due) {
        RepairAuction x = damaged(Texts.ring(bandwidth, 0, reserve, "first"), RICH + Texts.pair("i", "t", 1, 5)
                + Texts.pair("h", "t", 1, 7) + Texts.pair("g", "t", 1, 10));
        x.setRule(rule);
        for (int group = 0; group < 3; group++) {
            Check.same("price of group " + group + " with rule " + rule + " and " + bandwidth + " units", x.outcome(group, 1), due[2 - group]);
        }
    }

    private static void rules() {
        Sentence.of(0, "d. Each group that gets units pays a price per unit: its offer with the rule first;");
        prices(FIRST, 2, 6, 10, 7, 5);
        prices(FIRST, 2, 5, 10, 7, 5);
        prices(FIRST, 2, 4, 10, 7, 0);
        prices(FIRST, 2, 1, 10, 0, 0);
        Sentence.of(0, "with the rule second the offer of the next group in the order (the reserve price if there is none);");
        prices(SECOND, 2, 6, 7, 5, 2);
        prices(SECOND, 2, 5, 7, 5, 2);
        prices(SECOND, 2, 4, 7, 5, 0);
        prices(SECOND, 2, 1, 7, 0, 0);
        prices(SECOND, 0, 6, 7, 5, 0);
        prices(SECOND, 5, 6, 7, 5, 5);
        prices(SECOND, 6, 6, 7, 6, 0);
        prices(SECOND, 8, 6, 8, 0, 0);
        Sentence.of(0, "with the rule uniform the clearing price.");
        prices(UNIFORM, 2, 6, 2, 2, 2);
        prices(UNIFORM, 2, 5, 5, 5, 5);
        prices(UNIFORM, 2, 4, 5, 5, 0);
        prices(UNIFORM, 2, 3, 7, 7, 0);
        prices(UNIFORM, 2, 2, 7, 0, 0);
        prices(UNIFORM, 2, 1, 10, 0, 0);
        prices(UNIFORM, 0, 6, 0, 0, 0);
        prices(UNIFORM, 5, 6, 5, 5, 5);
    }

    private static void purseDecreases() {
        Sentence.of(0, "Its tenant's purse decreases by units * price.");
        int[] spent = {2 * 10 + 2 * 7 + 5, 2 * 7 + 2 * 5 + 2, 5 * 5};
        for (int rule = FIRST; rule <= UNIFORM; rule++) {
            RepairAuction x = damaged(Texts.ring(5, 0, 2, "first"), POOR + Texts.pair("i", "t", 1, 5) + Texts.pair("h", "t", 1, 7)
                    + Texts.pair("g", "t", 1, 10));
            x.setRule(rule);
            x.grant(0, 44);
            x.round();
            Check.same("purse with rule " + rule, x.tenant(0, 2), 44 - spent[rule]);
            Check.same("paid with rule " + rule, x.tenant(0, 4), spent[rule]);
        }
        RepairAuction x = damaged(Texts.ring(9, 0, 0, "second"), POOR + Texts.pair("g", "t", 1, 10));
        x.grant(0, 19);
        Check.same("a unit for nothing, but the offer counts", x.round(), 1);
        Check.same("nothing is paid", x.tenant(0, 2), 19);
    }

    private static void priceAtMostOffer() {
        Sentence.of(0, "(A price is never more than the offer.)");
        for (int bandwidth = 1; bandwidth <= 12; bandwidth++) {
            for (int rule = FIRST; rule <= UNIFORM; rule++) {
                RepairAuction x = damaged(Texts.ring(bandwidth, 0, 3, "first"), POOR + Texts.tenant("u", 0, 0) + Texts.pair("g", "t", 1, 5)
                        + Texts.pair("h", "u", 2, 7) + Texts.pair("i", "t", 1, 5) + Texts.pair("j", "u", 1, 3) + Texts.pair("k", "t", 1, 2));
                x.setRule(rule);
                x.grant(0, 17);
                x.grant(1, 26);
                for (int group = 0; group < 5; group++) {
                    boolean buys = x.outcome(group, 0) > 0;
                    int price = x.outcome(group, 1);
                    Check.yes("price " + price, buys ? price >= 3 && price <= x.offer(group) : price == 0);
                }
                x.round();
                Check.yes("no purse is negative", x.tenant(0, 2) >= 0 && x.tenant(1, 2) >= 0);
            }
        }
    }

    private static void progressGrows() {
        Sentence.of(0, "e. In the order of the bids, the progress of each group increases by its units;");
        RepairAuction x = damaged(free(8), RICH + Texts.pair("g", "t", 3, 5) + Texts.pair("h", "t", 3, 7));
        x.round();
        Check.same("h goes first and is repaired", x.missing(1), 0);
        Check.same("g has the rest", x.group(0, 6), 2);
        x.setBandwidth(3);
        x.round();
        Check.same("g has three more", x.group(0, 6), 5);
        x.round();
        Check.same("and the last one", x.group(0, 6), 0);
        RepairAuction y = narrow(9);
        y.round();
        Check.same("h's shard took the place", y.nodeOf(1, 1), 2);
        Check.same("g came behind h", y.nodeOf(0, 1), 1);
    }

    /** Group g of 1 + 3 shards and cost 4 on a to d; e to h can take them. */
    private static RepairAuction four(int bandwidth) {
        RepairAuction x = Texts.loaded(free(bandwidth) + Texts.nodes(8, 1, 9) + RICH + Texts.group("g", "t", 0, 1, 3, 2, 9999));
        for (int node = 1; node <= 3; node++) {
            x.fail(node);
        }
        return x;
    }

    private static void repaired(int bandwidth, int sold, int repaired, int progress, int... nodes) {
        RepairAuction x = four(bandwidth);
        Check.same("units sold", x.round(), sold);
        Check.same("repaired shards with " + bandwidth + " units", x.history(0, 4), repaired);
        Check.same("progress with " + bandwidth + " units", x.group(0, 6), progress);
        for (int shard = 0; shard < 4; shard++) {
            Check.same("node of shard " + shard, x.nodeOf(0, shard), nodes[shard]);
        }
    }

    private static void repairs() {
        Sentence.of(0, "as long as it is at least the cost and the group has a missing shard, the first missing shard is placed from the position "
                + "of its node plus 1 on, and the progress decreases by the cost;");
        repaired(1, 1, 0, 1, 0, 1, 2, 3);
        repaired(3, 3, 0, 3, 0, 1, 2, 3);
        repaired(4, 4, 1, 0, 0, 4, 2, 3);
        repaired(5, 5, 1, 1, 0, 4, 2, 3);
        repaired(7, 7, 1, 3, 0, 4, 2, 3);
        repaired(8, 8, 2, 0, 0, 4, 5, 3);
        repaired(11, 11, 2, 3, 0, 4, 5, 3);
        repaired(12, 12, 3, 0, 0, 4, 5, 6);
        repaired(99, 12, 3, 0, 0, 4, 5, 6);
    }

    private static void noPlace() {
        Sentence.of(0, "if it cannot be placed, the group goes on in a later round.");
        RepairAuction x = four(99);
        for (int node = 5; node < 8; node++) {
            x.drain(node, true);
        }
        Check.same("units for three", x.round(), 12);
        Check.same("a place for one", x.history(0, 4), 1);
        Check.same("which is e", x.nodeOf(0, 1), 4);
        Check.same("the others' units are kept", x.group(0, 6), 8);
        x.drain(6, false);
        x.fail(4);
        Check.yes("it bids again, for one shard more", x.bids(0));
        Check.same("four units more", x.round(), 4);
        Check.same("it goes on: a place for one", x.history(1, 4), 1);
        Check.same("shard 1 again, from behind e", x.nodeOf(0, 1), 6);
        Check.same("with units for two left", x.group(0, 6), 8);
    }

    private static void onlyBidders() {
        Sentence.of(0, "Only groups that bid in this round are gone through: one whose progress is enough, but that does not bid, "
                + "is placed in none until it bids again.");
        RepairAuction x = narrow(9);
        x.round();
        x.drain(3, false);
        Check.same("g could be placed, with the units that it has", x.target(0), 3);
        x.rounds(100);
        Check.same("but it does not bid", x.missing(0), 2);
        Check.same("its units stay", x.group(0, 6), 2);
        Check.same("so it is never repaired", x.roundsToRepair(0), RepairAuction.NONE);
        RepairAuction y = four(99);
        for (int node = 5; node < 8; node++) {
            y.drain(node, true);
        }
        y.round();
        y.drain(5, false);
        y.drain(6, false);
        y.drain(7, false);
        y.setRisk(0, 0);
        y.round();
        Check.same("no offer, no bid", y.history(1, 3), 0);
        y.setRisk(0, 1);
        y.round();
        Check.same("no need, no bid", y.history(2, 3), 0);
        Check.same("two are missing still", y.missing(0), 12);
        y.fail(4);
        y.setBandwidth(1);
        y.round();
        Check.same("it bids, and gets one unit", y.history(3, 1), 1);
        Check.same("and two shards are placed", y.history(3, 4), 2);
        Check.same("with 9 units, one of which is left", y.group(0, 6), 1);
        Check.same("shards 1 and 2, the first ones", y.missing(0), 8);
    }

    private static void carry() {
        Sentence.of(0, "f. The bandwidth that is carried over is what is left, but at most the carry.");
        int[][] leftAndDue = {{0, 0}, {1, 1}, {4, 4}, {5, 5}, {6, 5}, {99, 5}};
        for (int[] each : leftAndDue) {
            RepairAuction x = damaged(Texts.ring(4 + each[0], 5, 0, "first"), RICH + Texts.pair("g", "t", 2, 1));
            Check.same("sold", x.round(), 4);
            Check.same("carried if " + each[0] + " units are left", x.bandwidth() - 4 - each[0], each[1]);
            x.round();
            x.round();
            Check.same("carried if nothing is sold", x.bandwidth() - 4 - each[0], 5);
        }
        RepairAuction none = Texts.loaded(Texts.ring(9, 0, 0, "first"));
        none.round();
        Check.same("a carry of 0", none.bandwidth(), 9);
        RepairAuction most = Texts.loaded(Texts.ring(99999, 99998, 0, "first"));
        most.round();
        Check.same("a carry of one less than the bandwidth", most.bandwidth(), 199997);
    }

    private static void history() {
        Sentence.of(0, "The number of the round, the units that were sold, the clearing price, the number of bids and the number of repaired shards "
                + "are recorded in the history;");
        RepairAuction x = damaged(Texts.ring(5, 0, 2, "first"), RICH + Texts.pair("g", "t", 2, 5) + Texts.pair("h", "t", 1, 7)
                + Texts.pair("i", "t", 1, 1));
        x.rounds(3);
        int[][] due = {{0, 5, 5, 2, 1}, {1, 1, 2, 1, 1}, {2, 0, 2, 0, 0}};
        for (int index = 0; index < 3; index++) {
            for (int what = 0; what < 5; what++) {
                Check.same("history(" + index + ", " + what + ")", x.history(index, what), due[index][what]);
            }
        }
        Sentence.of(0, "the latest 40 rounds are kept.");
        x.rounds(36);
        Check.same("39 rounds", x.historySize(), 39);
        Check.same("the oldest one", x.history(0, 0), 0);
        x.round();
        Check.same("40 rounds", x.historySize(), 40);
        Check.same("the oldest one still", x.history(0, 1), 5);
        Check.same("the latest one", x.history(39, 0), 39);
        x.round();
        Check.same("40 of 41 rounds", x.historySize(), 40);
        Check.same("the oldest one now", x.history(0, 0), 1);
        Check.same("its units", x.history(0, 1), 1);
        Check.same("the latest one", x.history(39, 0), 40);
        Check.outside("history(40, 0)", () -> x.history(40, 0));
    }

    private static void numbers() {
        Sentence.of(0, "Rounds are numbered from 0.");
        RepairAuction x = new RepairAuction();
        x.round();
        Check.same("the first round's number", x.history(0, 0), 0);
        Check.same("the second round's number", x.nextRound(), 1);
        Texts.load(x, free(1));
        x.round();
        Check.same("the first round's number behind load()", x.history(0, 0), 0);
    }

    private static void noWayBack() {
        Sentence.of(0, "A shard that is placed anew does not come back to its old node when that node recovers.");
        RepairAuction x = damaged(free(4), RICH + Texts.pair("g", "t", 2, 1) + Texts.pair("h", "t", 2, 1));
        x.round();
        x.recover(1);
        Check.same("g's shard is on c", x.nodeOf(0, 1), 2);
        Check.same("h's is on b, and available", x.nodeOf(1, 1), 1);
        Check.same("b's shards", x.node(1, 4), 1);
        Check.same("b's groups", x.groupsOn(1), 2);
        Check.same("c's shards", x.node(2, 4), 1);
        Check.same("nothing is missing", x.damaged(), 0);
        x.rounds(3);
        Check.same("nor does it come back later", x.nodeOf(0, 1), 2);
    }

    private static void progressStays() {
        Sentence.of(0, "A group whose shards are all available keeps its progress.");
        RepairAuction x = damaged(free(3), RICH + Texts.pair("g", "t", 2, 1));
        x.round();
        x.recover(1);
        Check.same("progress", x.group(0, 6), 3);
        x.rounds(100);
        Check.same("progress behind a hundred rounds", x.group(0, 6), 3);
        x.fail(0);
        x.setRisk(1, 1);
        Check.same("a single unit is needed", x.group(0, 8), 1);
        Check.same("and bought", x.round(), 1);
        Check.same("for the repair", x.missing(0), 0);
        RepairAuction y = narrow(9);
        y.round();
        y.recover(1);
        Check.same("a progress of a whole repair", y.group(0, 6), 2);
        y.round();
        Check.same("stays, too", y.group(0, 6), 2);
        y.drain(3, false);
        y.fail(1);
        Check.same("and makes the next repair's need 0", y.group(0, 8), 0);
    }

    private static void round() {
        Sentence.of(37, "Runs a round (section 5).", "Returns the number of units that were sold.");
        Check.same("a round of nothing", new RepairAuction().round(), 0);
        RepairAuction x = damaged(free(5), RICH + Texts.pair("g", "t", 2, 1) + Texts.pair("h", "t", 2, 1));
        Check.same("all that there is", x.round(), 5);
        Check.same("all that is needed", x.round(), 3);
        Check.same("nothing is needed", x.round(), 0);
        Check.same("three rounds", x.nextRound(), 3);
        RepairAuction large = Texts.loaded(Texts.large());
        for (int node = 0; node < 4; node++) {
            large.fail(node);
        }
        for (int times = 0; times < 9; times++) {
            large.grant(0, 999999);
        }
        Check.same("all that 8999991 credits pay for", large.round(), 9 * 999999 / 9999);
    }

    private static void rounds() {
        Sentence.of(38, "Runs rounds one after the other; this is one call for undo().");
        RepairAuction x = damaged(free(1), RICH + Texts.pair("g", "t", 2, 1) + Texts.pair("h", "t", 2, 1));
        String before = Texts.state(x);
        int calls = x.undoCount();
        x.rounds(7);
        Check.same("seven rounds", x.nextRound(), 7);
        Check.same("one call", x.undoCount(), calls + 1);
        x.undo();
        Check.same("all seven are undone", Texts.state(x), before);
        RepairAuction y = damaged(free(1), RICH + Texts.pair("g", "t", 2, 1) + Texts.pair("h", "t", 2, 1));
        x.rounds(5);
        for (int round = 0; round < 5; round++) {
            y.round();
        }
        Check.same("as five calls of round()", Texts.state(x), Texts.state(y));
        Sentence.of(38, "- `count`: 1 to 100", "Returns the number of repaired shards.");
        x.undo();
        Check.same("rounds(1)", x.rounds(1), 0);
        Check.same("one round", x.nextRound(), 1);
        Check.same("rounds(2)", x.rounds(2), 0);
        Check.same("rounds(1), the fourth one", x.rounds(1), 1);
        x.undo();
        Check.same("rounds(100)", x.rounds(100), 2);
        Check.same("a hundred rounds", x.nextRound(), 103);
        Check.same("nothing is left to repair", x.rounds(100), 0);
        Check.illegal("rounds(0)", () -> x.rounds(0));
        Check.illegal("rounds(-1)", () -> x.rounds(-1));
        Check.illegal("rounds(101)", () -> x.rounds(101));
        Check.same("no round more", x.nextRound(), 203);
    }
}
