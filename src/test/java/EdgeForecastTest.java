import java.util.NoSuchElementException;

/** The edges that promises 47 to 56, 59 and 60 name, sentence by sentence. */
final class EdgeForecastTest {
    private static final int NONE = RepairAuction.NONE;
    private static final String ONE = Texts.ring(1, 0, 0, "first");
    private static final String RICH = Texts.tenant("t", 999999, 999999);

    private EdgeForecastTest() {
    }

    static void run() {
        predictionsChangeNothing();
        callNumber512();
        roundsToRepair();
        neverRepaired();
        roundsToCalm();
        soldIn();
        purseAfter();
        paidUntilCalm();
        historySize();
        history();
        meanPrice();
        dearestRound();
        longestRise();
        writeBids();
        outputByte();
        Sentence.end();
    }

    private static void predict(RepairAuction x) {
        for (int rounds : new int[] {1, 300}) {
            x.soldIn(rounds);
            for (int tenant = 0; tenant < x.count(1); tenant++) {
                x.purseAfter(tenant, rounds);
            }
        }
        for (int group = 0; group < x.count(2); group++) {
            x.roundsToRepair(group);
            x.outcome(group, 0);
            x.target(group);
            x.lossWithout(group, 0);
        }
        x.roundsToCalm();
        x.paidUntilCalm();
        x.fewestFailures();
        x.fewestFailuresSet();
        x.lostBy((1 << x.count(0)) - 1);
        x.worstNode();
        x.expectedLoss();
        x.bidder(0);
        x.clearingPrice();
        x.bandwidth();
    }

    private static void predictionsChangeNothing() {
        Sentence.of(0, "Methods that predict do not change anything.");
        for (int fixture = 0; fixture < 3; fixture++) {
            RepairAuction x = RangeTest.make(fixture);
            predict(x);
            Check.same("fixture " + fixture, Texts.everything(x), Texts.everything(RangeTest.make(fixture)));
        }
        RepairAuction x = slow(2, 100);
        x.roundsToCalm();
        x.soldIn(300);
        Check.same("a round behind predictions is the first one", x.round(), 1);
        Check.same("and has the number 0", x.history(0, 0), 0);
        Check.same("and is the only one", x.historySize(), 1);
    }

    private static void callNumber512() {
        RepairAuction x = new RepairAuction();
        for (int call = 1; call <= 511; call++) {
            x.round();
        }
        Check.same("the answer of the 512th call", x.nextRound(), 511);
    }

    /** A repair of (data + 1) * size units, of which one is sold in a round. */
    private static RepairAuction slow(int data, int size) {
        RepairAuction x = Texts.loaded(ONE + Texts.nodes(9, 1, 9) + RICH + Texts.group("g", "t", 0, data, 1, size, 9)
                + Texts.group("h", "t", 80, 1, 1, 1, 1));
        x.fail(data);
        return x;
    }

    private static void roundsToRepair() {
        Sentence.of(47, "Returns after how many rounds the group would not be damaged any more if nothing else was done:",
                "0 if it is not damaged, otherwise at most 300;");
        Check.same("a whole group beside a damaged one", slow(1, 1).roundsToRepair(1), 0);
        Check.same("two units", slow(1, 1).roundsToRepair(0), 2);
        RepairAuction one = slow(1, 1);
        one.setBandwidth(2);
        Check.same("two units at once", one.roundsToRepair(0), 1);
        RepairAuction x = slow(2, 100);
        Check.same("300 rounds", x.roundsToRepair(0), 300);
        x.rounds(100);
        Check.same("200 rounds", x.roundsToRepair(0), 200);
        x.rounds(100);
        x.rounds(99);
        Check.same("one round", x.roundsToRepair(0), 1);
        x.round();
        Check.same("none", x.roundsToRepair(0), 0);
        Check.same("it is not damaged", x.damaged(), 0);
        Check.outside("roundsToRepair(2)", () -> x.roundsToRepair(2));
        Check.outside("roundsToRepair(-1)", () -> x.roundsToRepair(-1));
    }

    private static void neverRepaired() {
        Sentence.of(47, "NONE if it would be after none of these.");
        RepairAuction x = slow(6, 43);
        Check.same("301 rounds", x.roundsToRepair(0), NONE);
        Check.same("the whole group", x.roundsToRepair(1), 0);
        x.round();
        Check.same("300 rounds", x.roundsToRepair(0), 300);
        RepairAuction lost = slow(1, 1);
        lost.fail(0);
        Check.same("a lost group", lost.roundsToRepair(0), NONE);
        RepairAuction poor = Texts.loaded(ONE + Texts.FOUR + Texts.tenant("t", 0, 999999) + Texts.pair("g", "t", 1, 1));
        poor.fail(1);
        Check.same("no credits", poor.roundsToRepair(0), NONE);
        poor.grant(0, 1);
        Check.same("a credit for one of two units", poor.roundsToRepair(0), NONE);
        poor.grant(0, 1);
        Check.same("credits for both", poor.roundsToRepair(0), 2);
        poor.drain(2, true);
        poor.drain(3, true);
        Check.same("no place", poor.roundsToRepair(0), NONE);
        poor.drain(3, false);
        poor.setRisk(0, 0);
        Check.same("no offer", poor.roundsToRepair(0), NONE);
    }

    private static void roundsToCalm() {
        Sentence.of(48, "Returns after how many rounds no group would be damaged any more if nothing else was done: 0 to 300;");
        Check.same("no groups", new RepairAuction().roundsToCalm(), 0);
        RepairAuction x = slow(2, 100);
        Check.same("300 rounds", x.roundsToCalm(), 300);
        x.recover(2);
        Check.same("no damage", x.roundsToCalm(), 0);
        x.fail(8);
        Check.same("the small group", x.roundsToCalm(), 2);
        x.fail(2);
        x.setBandwidth(2);
        Check.same("both groups", x.roundsToCalm(), 151);
        Check.same("the one", x.roundsToRepair(0), 150);
        Check.same("the other one, which offers less", x.roundsToRepair(1), 151);
        Sentence.of(48, "NONE if it would be after none of these.");
        x.setBandwidth(1);
        Check.same("302 rounds", x.roundsToCalm(), NONE);
        x.round();
        Check.same("301 rounds", x.roundsToCalm(), NONE);
        x.round();
        Check.same("300 rounds again", x.roundsToCalm(), 300);
        x.fail(0);
        x.fail(1);
        Check.same("a lost group", x.roundsToCalm(), NONE);
        Check.same("301 units", slow(6, 43).roundsToCalm(), NONE);
    }

    private static void soldIn() {
        Sentence.of(49, "- `rounds`: 0 to 300",
                "Returns the number of units that would be sold in these next rounds together if nothing else was done.");
        RepairAuction x = slow(6, 43);
        int[] rounds = {0, 1, 2, 299, 300};
        for (int each : rounds) {
            Check.same("soldIn(" + each + ")", x.soldIn(each), each);
        }
        x.round();
        x.setBandwidth(99999);
        Check.same("all that is needed, in the first round", x.soldIn(1), 300);
        Check.same("and nothing behind it", x.soldIn(300), 300);
        Check.illegal("soldIn(-1)", () -> x.soldIn(-1));
        Check.illegal("soldIn(301)", () -> x.soldIn(301));
        Check.same("without groups", new RepairAuction().soldIn(300), 0);
    }

    private static void purseAfter() {
        Sentence.of(50, "- `rounds`: 0 to 300", "Returns what the tenant's purse would be after so many rounds if nothing else was done.");
        RepairAuction x = Texts.loaded(ONE + Texts.FOUR + Texts.tenant("t", 1, 299) + Texts.tenant("u", 7, 2101) + Texts.pair("g", "u", 1, 20));
        int[][] due = {{0, 0, 0}, {1, 1, 7}, {298, 298, 2086}, {299, 299, 2093}, {300, 299, 2100}};
        for (int[] each : due) {
            Check.same("purseAfter(0, " + each[0] + ")", x.purseAfter(0, each[0]), each[1]);
            Check.same("purseAfter(1, " + each[0] + ")", x.purseAfter(1, each[0]), each[2]);
        }
        x.grant(0, 999999);
        Check.same("a purse that is greater stays", x.purseAfter(0, 300), 999999);
        x.fail(1);
        Check.same("three incomes pay for a unit", x.purseAfter(1, 3), 1);
        Check.same("six for the other one", x.purseAfter(1, 6), 2);
        Check.same("that is all", x.purseAfter(1, 300), 2060);
        Check.illegal("purseAfter(0, -1)", () -> x.purseAfter(0, -1));
        Check.illegal("purseAfter(0, 301)", () -> x.purseAfter(0, 301));
        Check.outside("purseAfter(2, 301)", () -> x.purseAfter(2, 301));
        Check.outside("purseAfter(-1, 0)", () -> x.purseAfter(-1, 0));
    }

    private static void paidUntilCalm() {
        Sentence.of(51, "Returns the credits that all tenants together would pay in the rounds until no group would be damaged any more "
                + "(see roundsToCalm()), but at most 2000000000;");
        Check.same("no groups", new RepairAuction().paidUntilCalm(), 0);
        RepairAuction x = Texts.loaded(Texts.ring(1, 0, 3, "second") + Texts.FOUR + RICH + Texts.tenant("u", 9, 99)
                + Texts.pair("g", "t", 1, 9) + Texts.pair("h", "u", 1, 7));
        Check.same("no damage", x.paidUntilCalm(), 0);
        x.fail(1);
        Check.same("two rounds of g at h's offer, two of h at the reserve price", x.paidUntilCalm(), 2 * 7 + 2 * 3);
        x.round();
        Check.same("what is paid already does not count", x.paidUntilCalm(), 7 + 2 * 3);
        RepairAuction large = Texts.loaded(Texts.large());
        for (int node = 0; node < 4; node++) {
            large.fail(node);
        }
        // More than these units at the greatest price cannot be needed at once.
        Check.same("all repairs that there can be", large.paidUntilCalm(), 28000 * 9999);
        Check.same("take 280 rounds", large.roundsToCalm(), 280);
        Sentence.of(51, "NONE if roundsToCalm() is NONE.");
        RepairAuction y = slow(6, 43);
        Check.same("301 rounds", y.paidUntilCalm(), NONE);
        y.round();
        // Six nodes fail with 1 - 0.999 * .. * 0.999, which is 0.005985 and a bit: 9 times that are 53 thousandths and a bit.
        Check.same("300 rounds", y.paidUntilCalm(), 300 * 53);
        y.fail(0);
        Check.same("a lost group", y.paidUntilCalm(), NONE);
    }

    private static void historySize() {
        Sentence.of(52, "Returns the number of rounds in the history.");
        RepairAuction x = new RepairAuction();
        for (int rounds = 0; rounds <= 42; rounds++) {
            Check.same("historySize behind " + rounds, x.historySize(), Math.min(40, rounds));
            x.round();
        }
        x.rounds(100);
        Check.same("historySize behind rounds(100)", x.historySize(), 40);
        x.undo();
        Check.same("historySize behind undo()", x.historySize(), 40);
        Texts.load(x, ONE);
        Check.same("historySize behind load()", x.historySize(), 0);
        x.undo();
        Check.same("historySize behind undo() of load()", x.historySize(), 40);
    }

    /** Rounds with these clearing prices: the group offers the price, and would pay for more than one unit. */
    private static RepairAuction priced(int... prices) {
        RepairAuction x = Texts.loaded(ONE + Texts.FOUR + RICH + Texts.pair("g", "t", 100, 1));
        x.fail(1);
        for (int price : prices) {
            x.setRisk(0, price);
            x.round();
        }
        return x;
    }

    /** Rounds with ascending clearing prices from least on. */
    private static RepairAuction rising(int rounds, int least) {
        int[] prices = new int[rounds];
        for (int round = 0; round < rounds; round++) {
            prices[round] = least + round;
        }
        return priced(prices);
    }

    private static void history() {
        Sentence.of(53, "- `index`: index in the history, from 0 for the oldest round",
                "- `what`: 0 the number of the round; 1 the units that were sold; 2 the clearing price; 3 the number of bids; "
                + "4 the number of repaired shards", "Returns that value.");
        RepairAuction x = priced(5, 0, 999);
        int[][] due = {{0, 1, 5, 1, 0}, {1, 0, 0, 0, 0}, {2, 1, 999, 1, 0}};
        for (int index = 0; index < 3; index++) {
            for (int what = 0; what < 5; what++) {
                Check.same("history(" + index + ", " + what + ")", x.history(index, what), due[index][what]);
            }
        }
        Check.outside("history(3, 0)", () -> x.history(3, 0));
        Check.outside("history(-1, 0)", () -> x.history(-1, 0));
        Check.outside("history(3, 5)", () -> x.history(3, 5));
        Check.illegal("history(2, 5)", () -> x.history(2, 5));
        Check.illegal("history(2, -1)", () -> x.history(2, -1));
        Check.outside("history(0, 0) of none", () -> new RepairAuction().history(0, 0));
        RepairAuction y = rising(41, 1);
        Check.same("the oldest of 41 rounds that is kept", y.history(0, 2), 2);
        Check.same("the latest one", y.history(39, 2), 41);
        Check.outside("history(40, 0)", () -> y.history(40, 0));
        RepairAuction z = priced(7);
        z.setBandwidth(99999);
        z.round();
        Check.same("units sold", z.history(1, 1), 199);
        Check.same("a repaired shard", z.history(1, 4), 1);
    }

    private static void meanPrice() {
        Sentence.of(54, "- `rounds`: 1 to 40",
                "Returns the mean of the clearing prices of the latest rounds of the history, as many as there are of these, as a double.");
        RepairAuction one = priced(7);
        Check.same("meanPrice(1) of one", one.meanPrice(1), 7.0);
        Check.same("meanPrice(40) of one", one.meanPrice(40), 7.0);
        RepairAuction x = priced(100, 0, 1, 0);
        Check.same("meanPrice(1)", x.meanPrice(1), 0.0);
        Check.same("meanPrice(2)", x.meanPrice(2), 0.5);
        Check.same("meanPrice(3)", x.meanPrice(3), 1.0 / 3.0);
        Check.same("meanPrice(4)", x.meanPrice(4), 101.0 / 4.0);
        Check.same("meanPrice(5) of four", x.meanPrice(5), 101.0 / 4.0);
        Check.same("meanPrice(40) of four", x.meanPrice(40), 101.0 / 4.0);
        RepairAuction many = rising(42, 1);
        Check.same("meanPrice(40) of 42: 3 to 42", many.meanPrice(40), 22.5);
        Check.same("meanPrice(39) of 42: 4 to 42", many.meanPrice(39), 23.0);
        Check.illegal("meanPrice(0)", () -> x.meanPrice(0));
        Check.illegal("meanPrice(-1)", () -> x.meanPrice(-1));
        Check.illegal("meanPrice(41)", () -> x.meanPrice(41));
        Sentence.of(54, "Throws `NoSuchElementException` if the history is empty");
        RepairAuction none = new RepairAuction();
        Check.throwing("meanPrice(1) of none", NoSuchElementException.class, () -> none.meanPrice(1));
        Check.throwing("meanPrice(40) of none", NoSuchElementException.class, () -> none.meanPrice(40));
        Check.illegal("meanPrice(0) of none", () -> none.meanPrice(0));
        Check.illegal("meanPrice(41) of none", () -> none.meanPrice(41));
        x.undo();
        Texts.load(x, ONE);
        Check.throwing("meanPrice(1) behind load()", NoSuchElementException.class, () -> x.meanPrice(1));
    }

    private static void dearestRound() {
        Sentence.of(55, "Returns the index of the round with the highest clearing price in the history, the oldest one among equals.");
        Check.same("of one", priced(0).dearestRound(), 0);
        Check.same("of equal ones", priced(3, 3, 3).dearestRound(), 0);
        Check.same("the last one", priced(3, 3, 4).dearestRound(), 2);
        Check.same("the first one", priced(4, 3, 3).dearestRound(), 0);
        Check.same("the oldest of two", priced(1, 4, 3, 4).dearestRound(), 1);
        Check.same("the last of 40", rising(40, 1).dearestRound(), 39);
        int[] prices = new int[41];
        prices[0] = 9;
        prices[2] = 5;
        prices[40] = 5;
        Check.same("the first of 41 is not kept: the third one is", priced(prices).dearestRound(), 1);
        Sentence.of(55, "Throws `NoSuchElementException` if the history is empty");
        Check.throwing("of none", NoSuchElementException.class, () -> new RepairAuction().dearestRound());
        RepairAuction undone = new RepairAuction();
        undone.round();
        undone.undo();
        Check.throwing("of none behind undo()", NoSuchElementException.class, () -> undone.dearestRound());
    }

    private static void longestRise() {
        Sentence.of(56, "Returns the greatest number of consecutive rounds in the history of which each has a higher clearing price than the one before "
                + "(1 if no price is higher than the one before);");
        Check.same("of one", priced(5).longestRise(), 1);
        Check.same("of equal ones", priced(5, 5, 5).longestRise(), 1);
        Check.same("of falling ones", priced(5, 4, 3).longestRise(), 1);
        Check.same("of two", priced(5, 6).longestRise(), 2);
        Check.same("by one credit", priced(0, 1, 2).longestRise(), 3);
        Check.same("equal ones end it", priced(1, 2, 2, 3, 4, 4).longestRise(), 3);
        Check.same("the first of two", priced(1, 2, 3, 1, 2).longestRise(), 3);
        Check.same("the last of two", priced(1, 2, 1, 2, 3, 4).longestRise(), 4);
        Check.same("all of 40", rising(40, 1).longestRise(), 40);
        Check.same("all of 45, of which 40 are kept", rising(45, 1).longestRise(), 40);
        Sentence.of(56, "0 if the history is empty.");
        Check.same("of none", new RepairAuction().longestRise(), 0);
        RepairAuction x = priced(1, 2, 3);
        Texts.load(x, ONE);
        Check.same("of none behind load()", x.longestRise(), 0);
    }

    private static void writeBids() {
        Sentence.of(59, "Writes the bids that would be made now to the output buffer, replacing its content:",
                "for each one in their order the name of the group, a colon, its offer, a slash, its need, and a newline.");
        RepairAuction least = Texts.loaded(Texts.ring(3, 0, 0, "first") + Texts.FOUR + RICH + Texts.pair("g", "t", 2, 1));
        least.fail(1);
        least.round();
        Check.same("the shortest bid", Texts.output(least), "g:1/1\n");
        RepairAuction x = Texts.loaded(Texts.large().replace("group a", "group zzzzzz"));
        for (int node = 0; node < 4; node++) {
            x.fail(node);
        }
        String all = Texts.output(x);
        Check.same("the longest bid", all.substring(0, 17), "zzzzzz:9999/2800\n");
        Check.same("all bids", all.length(), 17 + 9 * 12);
        Check.same("the last one", all.substring(all.length() - 12), "j:9999/2800\n");
        RepairAuction order = Texts.loaded(ONE + Texts.FOUR + RICH + Texts.pair("a", "t", 50, 10) + Texts.pair("b", "t", 5, 100)
                + Texts.pair("c", "t", 50, 99) + Texts.pair("d", "t", 1, 1000) + Texts.group("e", "t", 20, 1, 1, 1, 1));
        order.fail(1);
        Check.same("in their order", Texts.output(order), "d:1000/2\nb:100/10\nc:99/100\na:10/100\n");
        order.setRisk(0, 0);
        Check.same("no bids", order.writeBids(), 0);
        Check.same("nothing is left", Texts.written(order), "");
        Sentence.of(59, "Returns the length of the output.");
        Check.same("of none", new RepairAuction().writeBids(), 0);
        Check.same("of the shortest bid", least.writeBids(), 6);
        Check.same("of ten", x.writeBids(), 17 + 9 * 12);
        Check.same("again", x.writeBids(), 17 + 9 * 12);
    }

    private static void outputByte() {
        Sentence.of(60, "- `index`: index into the output buffer", "Returns the byte at that index.");
        RepairAuction x = Texts.loaded(ONE + Texts.FOUR + RICH + Texts.pair("z", "t", 45, 9));
        Check.outside("before writeBids()", () -> x.outputByte(0));
        x.fail(1);
        int length = x.writeBids();
        int[] due = {'z', ':', '9', '/', '9', '0', '\n'};
        Check.same("writeBids()", length, 7);
        for (int index = 0; index < 7; index++) {
            Check.same("outputByte(" + index + ")", x.outputByte(index), due[index]);
        }
        Sentence.of(60, "Throws `IndexOutOfBoundsException` if index is negative or not less than the output's length");
        Check.outside("outputByte(7)", () -> x.outputByte(7));
        Check.outside("outputByte(-1)", () -> x.outputByte(-1));
        Check.outside("outputByte(max)", () -> x.outputByte(Integer.MAX_VALUE));
        Check.outside("outputByte(min)", () -> x.outputByte(Integer.MIN_VALUE));
        x.recover(1);
        Check.same("the output stays", x.outputByte(6), '\n');
        x.writeBids();
        Check.outside("it is empty", () -> x.outputByte(0));
    }
}
