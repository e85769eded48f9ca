/** Promises 47 to 56: predictions and the history. */
final class ForecastTest {
    private ForecastTest() {
    }

    static void run() {
        roundsToRepair();
        limitOf300();
        roundsToCalm();
        soldIn();
        purseAfter();
        paidUntilCalm();
        history();
        meanPrice();
        dearestRound();
        longestRise();
    }

    private static void roundsToRepair() {
        RepairAuction x = Texts.loaded(Texts.SMALL);
        Check.same("roundsToRepair of a whole group", x.roundsToRepair(0), 0);
        x.fail(1);
        Check.same("the purse grows by half a unit's price a round", x.roundsToRepair(0), 40);
        Check.same("tb never pays", x.roundsToRepair(1), RepairAuction.NONE);
        x.grant(0, 40000);
        Check.same("with credits for all", x.roundsToRepair(0), 1);
        x.setBandwidth(1);
        Check.same("unit by unit", x.roundsToRepair(0), 20);
        x.fail(0);
        Check.same("a lost group", x.roundsToRepair(0), RepairAuction.NONE);
        Check.same("predictions change nothing", x.nextRound(), 0);
        Check.outside("roundsToRepair(2)", () -> x.roundsToRepair(2));
        Check.outside("roundsToRepair(-1)", () -> x.roundsToRepair(-1));
    }

    /** g buys one unit a round: size 100 and data 1 or 2 make a repair of 200 or 300 units. */
    private static RepairAuction slow(int data, int size) {
        RepairAuction x = Texts.loaded("ring bandwidth 1 carry 0 reserve 0 price first;"
                + "node a at 0 zone 0 risk 100 room 9;node b at 1 zone 1 risk 0 room 9;node c at 2 zone 2 risk 0 room 9;"
                + "node d at 3 zone 3 risk 0 room 9;node e at 4 zone 4 risk 0 room 9;tenant t income 999999 most 999999;group g of t key 0 data " + data
                + " parity 1 size " + size + " value 1;");
        x.fail(data);
        return x;
    }

    private static void limitOf300() {
        RepairAuction x = slow(2, 100);
        Check.same("300 rounds", x.roundsToRepair(0), 300);
        Check.same("300 rounds to calm", x.roundsToCalm(), 300);
        Check.same("300 units at 100", x.paidUntilCalm(), 30000);
        Check.same("rounds(100)", x.rounds(100), 0);
        Check.same("200 rounds more", x.roundsToRepair(0), 200);
        RepairAuction longer = slow(3, 76);
        Check.same("304 rounds are too many", longer.roundsToRepair(0), RepairAuction.NONE);
        Check.same("304 rounds to calm, too", longer.roundsToCalm(), RepairAuction.NONE);
        Check.same("and to pay", longer.paidUntilCalm(), RepairAuction.NONE);
        longer.rounds(3);
        Check.same("301 still are", longer.roundsToCalm(), RepairAuction.NONE);
        longer.round();
        Check.same("300 are not", longer.roundsToCalm(), 300);
    }

    private static void roundsToCalm() {
        Check.same("roundsToCalm of an empty ring", new RepairAuction().roundsToCalm(), 0);
        RepairAuction x = Texts.loaded(Texts.SMALL);
        Check.same("roundsToCalm of a whole ring", x.roundsToCalm(), 0);
        x.fail(1);
        Check.same("roundsToCalm, tb never pays", x.roundsToCalm(), RepairAuction.NONE);
        x.grant(1, 999999);
        Check.same("roundsToCalm is that of the slowest group", x.roundsToCalm(), 40);
        Check.same("gb is faster", x.roundsToRepair(1), 1);
        x.fail(3);
        Check.same("a lost group is never calm", x.roundsToCalm(), RepairAuction.NONE);
        Check.same("nothing has changed", x.damaged(), 3);
    }

    private static void soldIn() {
        RepairAuction x = Texts.loaded(Texts.SMALL);
        Check.same("soldIn of a whole ring", x.soldIn(300), 0);
        x.fail(1);
        Check.same("soldIn(0)", x.soldIn(0), 0);
        Check.same("soldIn(1)", x.soldIn(1), 0);
        Check.same("soldIn(2)", x.soldIn(2), 1);
        Check.same("soldIn(39)", x.soldIn(39), 19);
        Check.same("soldIn(300)", x.soldIn(300), 20);
        Check.illegal("soldIn(301)", () -> x.soldIn(301));
        Check.illegal("soldIn(-1)", () -> x.soldIn(-1));
        Check.same("soldIn changes nothing", x.group(0, 6), 0);
        Check.same("it is not kept for undo", x.undoCount(), 2);
    }

    private static void purseAfter() {
        RepairAuction x = Texts.loaded(Texts.SMALL);
        Check.same("purseAfter(0, 0)", x.purseAfter(0, 0), 0);
        Check.same("purseAfter(0, 4)", x.purseAfter(0, 4), 4000);
        Check.same("purseAfter(0, 300)", x.purseAfter(0, 300), 5000);
        Check.same("purseAfter(1, 300)", x.purseAfter(1, 300), 0);
        x.fail(1);
        Check.same("purseAfter(0, 1)", x.purseAfter(0, 1), 1000);
        Check.same("purseAfter(0, 2)", x.purseAfter(0, 2), 0);
        Check.same("purseAfter(0, 43)", x.purseAfter(0, 43), 3000);
        Check.outside("purseAfter(2, 301)", () -> x.purseAfter(2, 301));
        Check.outside("purseAfter(-1, 0)", () -> x.purseAfter(-1, 0));
        Check.illegal("purseAfter(0, 301)", () -> x.purseAfter(0, 301));
        Check.illegal("purseAfter(0, -1)", () -> x.purseAfter(0, -1));
        Check.same("purseAfter changes nothing", x.tenant(0, 2), 0);
    }

    private static void paidUntilCalm() {
        Check.same("paidUntilCalm of an empty ring", new RepairAuction().paidUntilCalm(), 0);
        RepairAuction x = Texts.loaded(Texts.SMALL);
        Check.same("paidUntilCalm of a whole ring", x.paidUntilCalm(), 0);
        x.fail(1);
        Check.same("paidUntilCalm of a ring that is never calm", x.paidUntilCalm(), RepairAuction.NONE);
        x.grant(1, 999999);
        Check.same("both tenants pay", x.paidUntilCalm(), 20 * 2000 + 15 * 9999);
        x.round();
        Check.same("what is paid already does not count", x.paidUntilCalm(), 20 * 2000);
    }

    private static void history() {
        RepairAuction x = Texts.loaded(Texts.SMALL);
        Check.same("historySize of none", x.historySize(), 0);
        Check.outside("history(0, 0) of none", () -> x.history(0, 0));
        x.fail(1);
        x.grant(0, 9000);
        x.setBandwidth(3);
        int[][] due = {{0, 3, 2000, 2, 0}, {1, 2, 5, 2, 0}, {2, 0, 5, 2, 0}};
        x.rounds(3);
        Check.same("historySize", x.historySize(), 3);
        for (int index = 0; index < 3; index++) {
            for (int what = 0; what < 5; what++) {
                Check.same("history(" + index + ", " + what + ")", x.history(index, what), due[index][what]);
            }
        }
        Check.outside("history(3, 0)", () -> x.history(3, 0));
        Check.outside("history(-1, 0)", () -> x.history(-1, 0));
        Check.outside("history(3, 5)", () -> x.history(3, 5));
        Check.illegal("history(0, 5)", () -> x.history(0, 5));
        Check.illegal("history(0, -1)", () -> x.history(0, -1));
        x.rounds(37);
        Check.same("40 rounds", x.historySize(), 40);
        Check.same("the oldest one is round 0", x.history(0, 0), 0);
        x.round();
        Check.same("40 rounds still", x.historySize(), 40);
        Check.same("the oldest one is round 1", x.history(0, 0), 1);
        Check.same("its values moved, too", x.history(0, 1), 2);
        Check.same("the latest one is round 40", x.history(39, 0), 40);
        x.rounds(100);
        Check.same("the oldest one is round 101", x.history(0, 0), 101);
        Check.outside("history(40, 0)", () -> x.history(40, 0));
    }

    /** Rounds of the small ring with these clearing prices: ga offers the risk of na and gets too little. */
    private static RepairAuction priced(int... prices) {
        RepairAuction x = Texts.loaded(Texts.SMALL.replace("size 10 value 20", "size 100 value 1"));
        x.setRisk(3, 0);
        x.fail(1);
        x.setBandwidth(1);
        x.grant(0, 999999);
        for (int price : prices) {
            x.setRisk(0, price);
            x.round();
            Check.same("the round's clearing price", x.history(x.historySize() - 1, 2), price);
        }
        return x;
    }

    private static void meanPrice() {
        RepairAuction x = Texts.loaded(Texts.SMALL);
        Check.throwing("meanPrice(1) of none", java.util.NoSuchElementException.class, () -> x.meanPrice(1));
        Check.throwing("meanPrice(40) of none", java.util.NoSuchElementException.class, () -> x.meanPrice(40));
        Check.illegal("meanPrice(0) of none", () -> x.meanPrice(0));
        Check.illegal("meanPrice(41) of none", () -> x.meanPrice(41));
        Check.illegal("meanPrice(-1) of none", () -> x.meanPrice(-1));
        x.fail(1);
        x.grant(0, 9000);
        x.setBandwidth(3);
        x.rounds(3);
        Check.same("meanPrice(1)", x.meanPrice(1), 5.0);
        Check.same("meanPrice(2)", x.meanPrice(2), 5.0);
        Check.same("meanPrice(3)", x.meanPrice(3), 2010.0 / 3.0);
        Check.same("meanPrice of all there are", x.meanPrice(40), 2010.0 / 3.0);
        Check.illegal("meanPrice(41)", () -> x.meanPrice(41));
        x.rounds(38);
        Check.same("meanPrice(40) without the first one", x.meanPrice(40), x.meanPrice(1));
    }

    private static void dearestRound() {
        Check.throwing("dearestRound of none", java.util.NoSuchElementException.class,
                () -> Texts.loaded(Texts.SMALL).dearestRound());
        Check.same("dearestRound of one", priced(5).dearestRound(), 0);
        Check.same("the oldest among equals", priced(5, 90, 7, 90, 80).dearestRound(), 1);
        Check.same("the last one", priced(8, 9, 10).dearestRound(), 2);
        Check.same("the first one", priced(8, 7, 6).dearestRound(), 0);
    }

    private static void longestRise() {
        Check.same("longestRise of none", Texts.loaded(Texts.SMALL).longestRise(), 0);
        Check.same("longestRise of one", priced(5).longestRise(), 1);
        Check.same("equal prices do not rise", priced(5, 5, 5).longestRise(), 1);
        Check.same("falling prices do not rise", priced(9, 8, 7).longestRise(), 1);
        Check.same("a rise at the end", priced(7, 9, 8, 8, 9, 10).longestRise(), 3);
        Check.same("a rise at the beginning", priced(6, 7, 8, 9, 9, 10).longestRise(), 4);
        Check.same("a rise of all", priced(6, 7, 8).longestRise(), 3);
    }
}
