/** Promises 22 to 25 and 44 to 46: losses and what would make groups lost. */
final class LossTest {
    /** Three shards of which one is enough, with risks whose products are rounded down twice. */
    private static final String ROUNDED = Texts.RING
            + "node a at 0 zone 0 risk 333 room 9;node b at 1 zone 1 risk 777 room 9;"
            + "node c at 2 zone 2 risk 999 room 9;node d at 3 zone 3 risk 1 room 9;"
            + "node e at 4 zone 4 risk 123 room 9;tenant t income 0 most 0;"
            + "group g of t key 0 data 1 parity 4 size 1 value 9999;"
            + "group h of t key 0 data 3 parity 2 size 1 value 1;";

    private LossTest() {
    }

    static void run() {
        loss();
        lossIsRoundedStepByStep();
        lossOfTenShards();
        lossWithout();
        expectedLoss();
        worstNode();
        lostBy();
        fewestFailures();
    }

    private static void loss() {
        RepairAuction x = Texts.loaded(Texts.SMALL);
        Check.same("loss(0)", x.loss(0), 20000000);
        Check.same("loss(1)", x.loss(1), 10000000);
        x.drain(0, true);
        Check.same("loss with a draining node", x.loss(0), 20000000);
        x.fail(1);
        Check.same("loss of the last shard", x.loss(0), 100000000);
        Check.same("loss of one of the two last shards", x.loss(1), 50000000);
        x.fail(0);
        Check.same("loss of a lost group", x.loss(0), 1000000000);
        x.setRisk(3, 999);
        Check.same("loss with a new risk", x.loss(1), 999000000);
        x.setRisk(3, 0);
        Check.same("loss without risk", x.loss(1), 0);
        Check.outside("loss(2)", () -> x.loss(2));
        Check.outside("loss(-1)", () -> x.loss(-1));
    }

    /** The chances that exactly so many of the shards fail, written out from section 3. */
    private static long stepwise(int[] risks, int data) {
        int n = risks.length;
        long[] p = new long[n + 1];
        p[0] = 1000000000L;
        for (int q : risks) {
            for (int j = n; j >= 0; j--) {
                p[j] = (p[j] * (1000 - q) + (j == 0 ? 0 : p[j - 1]) * q) / 1000;
            }
        }
        long sum = 0;
        for (int j = n - data + 1; j <= n; j++) {
            sum += p[j];
        }
        return sum;
    }

    private static void lossIsRoundedStepByStep() {
        RepairAuction x = Texts.loaded(ROUNDED);
        Check.same("loss of five nodes", x.loss(0), stepwise(new int[] {333, 777, 999, 1, 123}, 1));
        Check.same("loss of five nodes by hand", x.loss(0), 31793);
        Check.same("loss of three of five", x.loss(1), stepwise(new int[] {333, 777, 999, 1, 123}, 3));
        x.fail(1);
        Check.same("loss of four nodes", x.loss(0), stepwise(new int[] {333, 999, 1, 123}, 1));
        Check.same("loss of three of four", x.loss(1), stepwise(new int[] {333, 999, 1, 123}, 3));
    }

    private static void lossOfTenShards() {
        int[] risks = new int[10];
        StringBuilder text = new StringBuilder(Texts.RING);
        for (int node = 0; node < 10; node++) {
            risks[node] = 999 - 60 * node;
            text.append("node ").append((char) ('a' + node)).append(" at ").append(node);
            text.append(" zone 0 risk ").append(risks[node]).append(" room 1;");
        }
        RepairAuction x = Texts.loaded(text + "tenant t income 0 most 0;group g of t key 0 data 6 parity 4 size 1 value 1;");
        Check.same("loss of ten shards", x.loss(0), stepwise(risks, 6));
        for (int node = 0; node < 10; node++) {
            x.setRisk(node, 999);
        }
        int[] same = {999, 999, 999, 999, 999, 999, 999, 999, 999, 999};
        Check.same("loss of ten shards that nearly all fail", x.loss(0), stepwise(same, 6));
    }

    private static void lossWithout() {
        RepairAuction x = Texts.loaded(Texts.SMALL);
        Check.same("lossWithout(0, 0)", x.lossWithout(0, 0), 200000000);
        Check.same("lossWithout(0, 1)", x.lossWithout(0, 1), 100000000);
        Check.same("lossWithout a node that the group is not on", x.lossWithout(0, 2), 20000000);
        Check.same("lossWithout(1, 2)", x.lossWithout(1, 2), 240000000);
        x.fail(1);
        Check.same("lossWithout a node that is down", x.lossWithout(0, 1), 100000000);
        Check.same("lossWithout the last one", x.lossWithout(0, 0), 1000000000);
        Check.same("lossWithout changes nothing", x.lost(), 0);
        Check.outside("lossWithout(2, 0)", () -> x.lossWithout(2, 0));
        Check.outside("lossWithout(0, 4)", () -> x.lossWithout(0, 4));
        Check.outside("lossWithout(0, -1)", () -> x.lossWithout(0, -1));
        Check.outside("lossWithout(-1, 0)", () -> x.lossWithout(-1, 0));
    }

    private static void expectedLoss() {
        Check.same("expectedLoss without groups", new RepairAuction().expectedLoss(), 0.0);
        RepairAuction x = Texts.loaded(Texts.SMALL);
        Check.same("expectedLoss", x.expectedLoss(), 0.0 + 400000000 / 1000000000.0 + 99990000000L / 1000000000.0);
        x.fail(1);
        x.fail(3);
        Check.same("expectedLoss with a lost group", x.expectedLoss(), 2.0 + 9999.0);
        RepairAuction rounded = Texts.loaded(ROUNDED);
        Check.same("expectedLoss of parts", rounded.expectedLoss(),
                0.0 + 9999L * rounded.loss(0) / 1000000000.0 + rounded.loss(1) / 1000000000.0);
    }

    private static void worstNode() {
        Check.same("worstNode without nodes", new RepairAuction().worstNode(), RepairAuction.NONE);
        RepairAuction x = Texts.loaded(Texts.SMALL);
        Check.same("worstNode", x.worstNode(), 2);
        x.fail(2);
        Check.same("worstNode that is not down", x.worstNode(), 1);
        x.fail(1);
        Check.same("worstNode if gb is lost already", x.worstNode(), 0);
        x.fail(0);
        Check.same("the only node left", x.worstNode(), 3);
        x.fail(3);
        Check.same("worstNode of none", x.worstNode(), RepairAuction.NONE);
        RepairAuction sum = Texts.loaded(Texts.RING
                + "node a at 0 zone 0 risk 100 room 9;node b at 1 zone 1 risk 100 room 9;node c at 2 zone 2 risk 100 room 9;"
                + "node d at 3 zone 3 risk 100 room 9;tenant t income 0 most 0;"
                + "group g of t key 0 data 1 parity 1 size 1 value 40;group h of t key 1 data 1 parity 1 size 1 value 30;"
                + "group i of t key 2 data 1 parity 1 size 1 value 35;");
        Check.same("g and h together lose most by b, i alone has less than h and i", sum.worstNode(), 1);
        equalLosses();
    }

    private static void equalLosses() {
        RepairAuction equal = Texts.loaded(Texts.RING
                + "node a at 9 zone 0 risk 0 room 1;node b at 8 zone 0 risk 0 room 1;node c at 7 zone 0 risk 0 room 1;"
                + "tenant t income 0 most 0;group g of t key 7 data 1 parity 1 size 1 value 1;");
        Check.same("the lowest among equals", equal.worstNode(), 0);
        equal.drain(0, true);
        Check.same("a draining node counts", equal.worstNode(), 0);
    }

    private static void lostBy() {
        RepairAuction x = Texts.loaded(Texts.SMALL);
        Check.same("lostBy(0)", x.lostBy(0), 0);
        Check.same("lostBy(3)", x.lostBy(3), 1);
        Check.same("lostBy(12)", x.lostBy(12), 2);
        Check.same("lostBy(15)", x.lostBy(15), 3);
        x.fail(1);
        Check.same("nodes that are down stay down", x.lostBy(8), 2);
        Check.same("nodes may be named again", x.lostBy(2), 0);
        x.fail(0);
        Check.same("lost ones stay lost", x.lostBy(0), 1);
        Check.same("lostBy changes nothing", x.lost(), 1);
        Check.illegal("lostBy(16)", () -> x.lostBy(16));
        Check.illegal("lostBy(-1)", () -> x.lostBy(-1));
        Check.illegal("lostBy(min)", () -> x.lostBy(Integer.MIN_VALUE));
        Check.illegal("lostBy(1) without nodes", () -> new RepairAuction().lostBy(1));
    }

    private static void fewestFailures() {
        RepairAuction empty = new RepairAuction();
        Check.same("fewestFailures without groups", empty.fewestFailures(), RepairAuction.NONE);
        Check.same("fewestFailuresSet without groups", empty.fewestFailuresSet(), RepairAuction.NONE);
        RepairAuction x = Texts.loaded(Texts.SMALL);
        Check.same("fewestFailures", x.fewestFailures(), 2);
        Check.same("fewestFailuresSet", x.fewestFailuresSet(), 3);
        x.fail(0);
        Check.same("one is enough for ga", x.fewestFailures(), 1);
        Check.same("it is nb", x.fewestFailuresSet(), 2);
        x.fail(1);
        Check.same("one is enough for gb, too", x.fewestFailures(), 1);
        Check.same("ga is lost already", x.fewestFailuresSet(), 4);
        x.fail(2);
        Check.same("fewestFailures if all are lost", x.fewestFailures(), RepairAuction.NONE);
        Check.same("fewestFailuresSet if all are lost", x.fewestFailuresSet(), RepairAuction.NONE);
        RepairAuction rounded = Texts.loaded(ROUNDED);
        Check.same("h has two shards to spare", rounded.fewestFailures(), 3);
        Check.same("the smallest mask", rounded.fewestFailuresSet(), 7);
        rounded.fail(0);
        Check.same("a node that is down does not count", rounded.fewestFailuresSet(), 6);
    }
}
