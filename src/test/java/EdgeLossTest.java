/** The edges that section 3 and promises 22 to 25 and 44 to 46 name, sentence by sentence. */
final class EdgeLossTest {
    private static final int NONE = RepairAuction.NONE;
    private static final String ONE = Texts.ring(1, 0, 0, "first");
    private static final String TENANT = Texts.tenant("t", 0, 0);

    private EdgeLossTest() {
    }

    static void run() {
        lossByRisks();
        lossOfLostGroups();
        roundedDown();
        sumOverMany();
        loss();
        lossWithout();
        expectedLoss();
        worstNode();
        worstNodeOfNone();
        lostBy();
        fewestFailures();
        fewestFailuresSet();
        Sentence.end();
    }

    /** A group of data + parity shards with value 1 on nodes 0, 1, .. with these risks. */
    private static RepairAuction group(int data, int... risks) {
        StringBuilder text = new StringBuilder(ONE);
        for (int node = 0; node < risks.length; node++) {
            text.append(Texts.node("" + (char) ('a' + node), node, node, risks[node], 9));
        }
        return Texts.loaded(text + TENANT + Texts.group("g", "t", 0, data, risks.length - data, 1, 1));
    }

    private static void lossByRisks() {
        Sentence.of(0, "3. LOSS. The loss of a group is the probability, in billionths, that in the next round it is lost by failures of the nodes "
                + "of its available shards, each by its risk;");
        Check.same("no risk", group(1, 0, 0).loss(0), 0);
        Check.same("one node without a risk is enough", group(1, 999, 0).loss(0), 0);
        Check.same("the least risks", group(1, 1, 1).loss(0), 1000);
        Check.same("the greatest risks", group(1, 999, 999).loss(0), 998001000);
        Check.same("half and half", group(1, 500, 500).loss(0), 250000000);
        RepairAuction x = group(1, 999, 1);
        x.fail(0);
        Check.same("a missing shard's node does not count", x.loss(0), 1000000);
        x.recover(0);
        x.drain(0, true);
        Check.same("a draining node counts", x.loss(0), 999000);
        x.setRisk(1, 0);
        Check.same("risk 0 of the last node", x.loss(0), 0);
    }

    private static void lossOfLostGroups() {
        Sentence.of(0, "it is 1000000000 if the group is lost already.");
        RepairAuction x = group(2, 0, 0, 0);
        x.fail(0);
        Check.same("as many shards as needed", x.loss(0), 0);
        x.fail(1);
        Check.same("one too few", x.loss(0), 1000000000);
        x.fail(2);
        Check.same("none", x.loss(0), 1000000000);
        x.recover(0);
        x.recover(1);
        Check.same("not lost any more", x.loss(0), 0);
        RepairAuction y = group(5, 333, 333, 333, 333, 333, 333);
        y.fail(0);
        y.fail(5);
        Check.same("nothing is rounded", y.loss(0), 1000000000);
        Check.same("nor if one more were down", y.lossWithout(0, 1), 1000000000);
    }

    private static void roundedDown() {
        Sentence.of(0, "With p[j] (billionths, at first p[0] = 1000000000, all others 0), for each available shard, in order, "
                + "with the risk q of its node, and for j from the number of available shards down to 0, p[j] becomes "
                + "(p[j] * (1000 - q) + p[j - 1] * q) / 1000, rounded down (p[-1] is 0).");
        Check.same("three nodes: 1000000000 / 1000 / 1000 / 1000", group(1, 1, 1, 1).loss(0), 1);
        Check.same("four nodes: 1 / 1000", group(1, 1, 1, 1, 1).loss(0), 0);
        // In steps 999000000, 49950000, 149850, 299 and 2; the other way round 7000000, 14000, 42, 2 and 1.
        Check.same("the order is that of the shards", group(1, 999, 50, 3, 2, 7).loss(0), 2);
        Check.same("the order is that of the shards, the other way round", group(1, 7, 2, 3, 50, 999).loss(0), 1);
        // 333 * 333 * 333 = 36926037 billionths exactly; the fourth factor makes 12296370.321 of them.
        Check.same("a fraction is cut off", group(1, 333, 333, 333, 333).loss(0), 12296370);
        // 999 * 7 * 7 * 7 = 342657 of 10^12 is 342.657 billionths; in steps 6993000, 48951, 342.
        Check.same("a great fraction, too", group(1, 999, 7, 7, 7).loss(0), 342);
        // In steps 7000000, 6993000, 48951, 342.
        Check.same("in another order", group(1, 7, 999, 7, 7).loss(0), 342);
    }

    private static void sumOverMany() {
        Sentence.of(0, "The loss is the sum of p[j] over all j greater than the number of available shards minus the number of data shards.");
        RepairAuction two = group(2, 500, 500, 500);
        two.fail(0);
        Check.same("more than none of two: 1 - 1/4", two.loss(0), 750000000);
        // Of three nodes with one half each: none, one, two and three fail with 1/8, 3/8, 3/8 and 1/8.
        Check.same("more than two of three", group(1, 500, 500, 500).loss(0), 125000000);
        Check.same("more than one of three", group(2, 500, 500, 500).loss(0), 500000000);
        // p[5] to p[10] are 252, 210, 120, 45, 10 and 1 in 1024, each rounded down.
        RepairAuction ten = group(6, 500, 500, 500, 500, 500, 500, 500, 500, 500, 500);
        Check.same("more than four of ten", ten.loss(0), 246093750 + 205078125 + 117187500 + 43945312 + 9765625 + 976562);
        for (int node = 0; node < 4; node++) {
            ten.fail(node);
        }
        Check.same("more than none of six: 1 - 1/64", ten.loss(0), 984375000);
    }

    private static void loss() {
        Sentence.of(22, "Returns its loss (section 3).");
        RepairAuction x = group(1, 999, 999);
        Check.same("loss(0)", x.loss(0), 998001000);
        Check.outside("loss(1)", () -> x.loss(1));
        Check.outside("loss(-1)", () -> x.loss(-1));
        Check.outside("loss(0) without groups", () -> new RepairAuction().loss(0));
    }

    private static void lossWithout() {
        Sentence.of(23, "Returns what its loss would be if this node were down.");
        RepairAuction x = Texts.loaded(ONE + Texts.nodes(16, 100, 9) + TENANT + Texts.group("g", "t", 0, 1, 1, 1, 1)
                + Texts.group("h", "t", 140, 2, 1, 1, 1));
        Check.same("without its first node", x.lossWithout(0, 0), 100000000);
        Check.same("without its last node", x.lossWithout(0, 1), 100000000);
        Check.same("without a node that it is not on", x.lossWithout(0, 15), 10000000);
        Check.same("without the last node of the ring", x.lossWithout(1, 15), 190000000);
        x.drain(0, true);
        Check.same("without a draining node", x.lossWithout(0, 0), 100000000);
        x.fail(0);
        Check.same("without a node that is down already", x.lossWithout(0, 0), 100000000);
        Check.same("without the last one that is left", x.lossWithout(0, 1), 1000000000);
        x.fail(1);
        Check.same("of a lost group", x.lossWithout(0, 5), 1000000000);
        Check.same("the node is as it was", x.node(5, 5), 0);
        Check.outside("lossWithout(2, 0)", () -> x.lossWithout(2, 0));
        Check.outside("lossWithout(-1, 0)", () -> x.lossWithout(-1, 0));
        Check.outside("lossWithout(0, 16)", () -> x.lossWithout(0, 16));
        Check.outside("lossWithout(0, -1)", () -> x.lossWithout(0, -1));
        Check.outside("lossWithout(0, 32)", () -> x.lossWithout(0, 32));
    }

    private static void expectedLoss() {
        Sentence.of(24, "Returns the sum of value * loss / 1000000000.0 over all groups, in ascending order, as a double.");
        Check.same("without groups", new RepairAuction().expectedLoss(), 0.0);
        Check.same("without risk", group(1, 0, 0).expectedLoss(), 0.0);
        Check.same("a single billionth", group(1, 1, 1, 1).expectedLoss(), 1 / 1000000000.0);
        StringBuilder text = new StringBuilder(ONE + Texts.nodes(10, 333, 50) + TENANT);
        double due = 0.0;
        for (int group = 0; group < 10; group++) {
            text.append(Texts.group("" + (char) ('a' + group), "t", 0, 1, 1 + group % 4, 1, 9999 - group * 777));
        }
        RepairAuction x = Texts.loaded(text.toString());
        long[] losses = {110889000, 36926037, 12296370, 4094691};
        for (int group = 0; group < 10; group++) {
            due += (9999 - group * 777) * losses[group % 4] / 1000000000.0;
        }
        Check.same("ten groups", x.expectedLoss(), due);
        for (int node = 0; node < 10; node++) {
            x.fail(node);
        }
        Check.same("ten lost groups", x.expectedLoss(), 99990.0 - 45 * 777);
    }

    private static void worstNode() {
        Sentence.of(25, "Returns the node that is not down and whose failure would increase the sum of value * loss of all groups most, "
                + "the lowest number among equals;");
        String pairs = ONE + Texts.FOUR + Texts.node("e", 40, 4, 0, 50) + TENANT;
        RepairAuction equal = Texts.loaded(pairs.replace("risk 1", "risk 0") + Texts.pair("g", "t", 1, 9999));
        Check.same("no failure of one node increases anything", equal.worstNode(), 0);
        equal.fail(0);
        Check.same("b, the last one of g", equal.worstNode(), 1);
        equal.fail(1);
        Check.same("g is lost already", equal.worstNode(), 2);
        RepairAuction last = Texts.loaded(pairs + Texts.group("g", "t", 30, 1, 1, 1, 1));
        last.setRisk(3, 10);
        Check.same("e, for d has a risk", last.worstNode(), 4);
        last.setRisk(4, 10);
        Check.same("d and e are equal", last.worstNode(), 3);
        last.setRisk(4, 9);
        Check.same("e leaves d, which is worse", last.worstNode(), 4);
        last.setRisk(4, 11);
        Check.same("d leaves e, which is worse", last.worstNode(), 3);
        last.drain(3, true);
        Check.same("d, draining", last.worstNode(), 3);
        last.fail(3);
        Check.same("d is down", last.worstNode(), 4);
        for (int value = 4999; value <= 5000; value++) {
            RepairAuction values = Texts.loaded(pairs.replace("risk 1", "risk 0") + Texts.group("g", "t", 20, 1, 1, 1, 9999)
                    + Texts.group("h", "t", 0, 1, 1, 1, value) + Texts.group("i", "t", 40, 1, 1, 1, value));
            values.fail(3);
            values.fail(4);
            values.fail(1);
            Check.same("a has twice the value, c 9999 once", values.worstNode(), value == 5000 ? 0 : 2);
        }
    }

    private static void worstNodeOfNone() {
        Sentence.of(25, "NONE if all nodes are down or there are none.");
        Check.same("no nodes", new RepairAuction().worstNode(), NONE);
        RepairAuction x = Texts.loaded(ONE + Texts.nodes(3, 0, 1));
        Check.same("no groups", x.worstNode(), 0);
        x.fail(0);
        x.fail(1);
        Check.same("the last node", x.worstNode(), 2);
        x.fail(2);
        Check.same("all are down", x.worstNode(), NONE);
        x.recover(1);
        Check.same("one is up again", x.worstNode(), 1);
    }

    private static void lostBy() {
        Sentence.of(44, "- `nodes`: a set of nodes", "Returns the set of the groups that would be lost if these nodes were down, too.");
        RepairAuction x = Texts.loaded(ONE + Texts.nodes(16, 0, 50) + TENANT + Texts.group("g", "t", 0, 1, 1, 1, 1)
                + Texts.group("h", "t", 140, 2, 2, 1, 1));
        Check.same("no node", x.lostBy(0), 0);
        Check.same("one of g", x.lostBy(1), 0);
        Check.same("both of g, and two of h", x.lostBy(3), 1);
        Check.same("two of h", x.lostBy(0xc000), 0);
        Check.same("three of h", x.lostBy(0xc001), 2);
        Check.same("all nodes", x.lostBy(0xffff), 3);
        Check.same("all nodes but those", x.lostBy(0x3ffc), 0);
        x.drain(1, true);
        Check.same("a draining node", x.lostBy(3), 1);
        x.fail(0);
        Check.same("no node more", x.lostBy(0), 0);
        Check.same("the other one of g", x.lostBy(2), 1);
        Check.same("one that is down", x.lostBy(1), 0);
        x.fail(1);
        Check.same("a group that is lost already would be lost, too", x.lostBy(0), 1);
        Check.same("and so it would with more nodes", x.lostBy(0xc000), 3);
        Sentence.of(44, "Throws `IllegalArgumentException` if nodes contains a node that does not exist (also if it has other bits)");
        for (int bit = 16; bit < 32; bit++) {
            int nodes = 1 << bit;
            Check.illegal("lostBy(1 << " + bit + ")", () -> x.lostBy(nodes));
            Check.illegal("lostBy(1 << " + bit + " | 3)", () -> x.lostBy(nodes | 3));
        }
        Check.illegal("lostBy(-1)", () -> x.lostBy(-1));
        RepairAuction none = new RepairAuction();
        Check.same("no nodes", none.lostBy(0), 0);
        Check.illegal("node 0 of none", () -> none.lostBy(1));
        RepairAuction three = Texts.loaded(ONE + Texts.nodes(3, 0, 1));
        Check.same("three of three", three.lostBy(7), 0);
        Check.illegal("node 3 of three", () -> three.lostBy(8));
    }

    private static void fewestFailures() {
        Sentence.of(45, "Returns the smallest number of nodes that are not down and whose failure together would make a group lost that is not lost yet;");
        for (int data = 1; data <= 6; data += 5) {
            RepairAuction x = group(data, new int[data + 4]);
            for (int failures = 5; failures >= 1; failures--) {
                Check.same("fewestFailures", x.fewestFailures(), failures);
                x.drain(failures - 1, true);
                Check.same("a draining node can fail", x.fewestFailures(), failures);
                x.fail(failures - 1);
            }
            Check.same("the group is lost", x.fewestFailures(), NONE);
        }
        RepairAuction two = Texts.loaded(ONE + Texts.nodes(16, 0, 50) + TENANT + Texts.group("g", "t", 0, 1, 4, 1, 1)
                + Texts.group("h", "t", 140, 2, 1, 1, 1));
        Check.same("h needs the fewest", two.fewestFailures(), 2);
        two.fail(14);
        two.fail(15);
        Check.same("h is lost already", two.fewestFailures(), 5);
        Sentence.of(45, "NONE if there is no such group.");
        Check.same("without groups", new RepairAuction().fewestFailures(), NONE);
        Check.same("without groups, with nodes", Texts.loaded(ONE + Texts.FOUR).fewestFailures(), NONE);
        for (int node = 0; node < 5; node++) {
            two.fail(node);
        }
        Check.same("all are lost", two.fewestFailures(), NONE);
    }

    private static void fewestFailuresSet() {
        Sentence.of(46, "Returns the smallest bit mask of such a set of nodes with this number (see fewestFailures());");
        RepairAuction x = Texts.loaded(ONE + Texts.nodes(16, 0, 50) + TENANT + Texts.group("g", "t", 120, 2, 1, 1, 1)
                + Texts.group("h", "t", 100, 1, 1, 1, 1));
        Check.same("h's nodes are lower than g's", x.fewestFailuresSet(), 0x0c00);
        x.fail(10);
        Check.same("h's last one", x.fewestFailuresSet(), 0x0800);
        x.fail(11);
        Check.same("the lowest two of g's three", x.fewestFailuresSet(), 0x3000);
        x.fail(12);
        Check.same("the lower one of g's two", x.fewestFailuresSet(), 0x2000);
        x.recover(12);
        x.fail(13);
        Check.same("the lower one of the others", x.fewestFailuresSet(), 0x1000);
        x.recover(13);
        x.fail(12);
        x.drain(13, true);
        Check.same("a draining node is not down", x.fewestFailuresSet(), 0x2000);
        RepairAuction first = Texts.loaded(ONE + Texts.nodes(16, 0, 50) + TENANT + Texts.group("g", "t", 100, 1, 1, 1, 1)
                + Texts.group("h", "t", 120, 2, 1, 1, 1));
        Check.same("g's nodes are lower than h's", first.fewestFailuresSet(), 0x0c00);
        RepairAuction last = Texts.loaded(ONE + Texts.nodes(16, 0, 50) + TENANT + Texts.group("g", "t", 140, 1, 1, 1, 1));
        last.fail(14);
        Check.same("the highest bit that there is", last.fewestFailuresSet(), 0x8000);
        Check.same("the greatest number", group(1, 0, 0, 0, 0, 0).fewestFailuresSet(), 31);
        Sentence.of(46, "NONE if there is none.");
        RepairAuction deep = group(3, 0, 0, 0, 0);
        for (int node = 0; node < 4; node++) {
            deep.fail(node);
            Check.same("of a group with " + (3 - node) + " of 3 shards", deep.fewestFailuresSet(), node == 0 ? 2 : NONE);
            Check.same("number of failures", deep.fewestFailures(), node == 0 ? 1 : NONE);
        }
        Check.same("without groups", new RepairAuction().fewestFailuresSet(), NONE);
        last.fail(15);
        Check.same("all are lost", last.fewestFailuresSet(), NONE);
    }
}
