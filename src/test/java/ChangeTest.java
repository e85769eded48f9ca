import java.util.function.Consumer;

/** Promises 34 to 36, 39 to 43, 57 and 58: changes, their exceptions, and undo. */
final class ChangeTest {
    private ChangeTest() {
    }

    static void run() {
        fail();
        recover();
        drain();
        setRisk();
        setBandwidth();
        setRule();
        grant();
        move();
        undoOfEachCall();
        undoKeepsEight();
        undoOfLoad();
        callsThatThrowAreNotKept();
    }

    private static void fail() {
        RepairAuction x = Texts.loaded(Texts.SMALL);
        x.rounds(3);
        Check.same("fail(1)", x.fail(1), 0);
        Check.same("down", x.node(1, 5), 1);
        Check.same("down since round 3", x.node(1, 6), 3);
        Check.same("fail(3) makes gb lost", x.fail(3), 2);
        x.drain(0, true);
        Check.same("a draining node fails, and ga alone is newly lost", x.fail(0), 1);
        Check.same("it is down", x.node(0, 5), 1);
        Check.same("fail(2)", x.fail(2), 0);
        Check.unfit("fail(2) again", () -> x.fail(2));
        Check.outside("fail(4)", () -> x.fail(4));
        Check.outside("fail(-1)", () -> x.fail(-1));
        Check.outside("fail(0) without nodes", () -> new RepairAuction().fail(0));
    }

    private static void recover() {
        RepairAuction x = Texts.loaded(Texts.SMALL);
        Check.unfit("recover a node that is up", () -> x.recover(0));
        x.drain(0, true);
        Check.unfit("recover a draining node", () -> x.recover(0));
        x.fail(0);
        x.fail(1);
        x.fail(3);
        x.rounds(2);
        Check.same("recover(0) brings ga back", x.recover(0), 1);
        Check.same("it is up, not draining", x.node(0, 5), 0);
        Check.same("since round 2", x.node(0, 6), 2);
        Check.same("recover(1) brings gb back", x.recover(1), 2);
        Check.same("recover(3)", x.recover(3), 0);
        Check.same("all is available", x.damaged(), 0);
        Check.outside("recover(4)", () -> x.recover(4));
        Check.outside("recover(-1)", () -> x.recover(-1));
        x.fail(1);
        x.grant(0, 90000);
        x.round();
        Check.same("ga 1 is placed anew", x.nodeOf(0, 1), 2);
        x.recover(1);
        Check.same("and stays there", x.nodeOf(0, 1), 2);
        Check.same("gb 0 is where it was", x.nodeOf(1, 0), 1);
        Check.same("one shard is left on nb", x.node(1, 4), 1);
        Check.same("two are on nc", x.node(2, 4), 2);
    }

    private static void drain() {
        RepairAuction x = Texts.loaded(Texts.SMALL);
        x.round();
        Check.unfit("drain(1, false) of a node that is up", () -> x.drain(1, false));
        Check.same("drain(1, true)", x.drain(1, true), 2);
        Check.same("draining", x.node(1, 5), 2);
        Check.same("draining since round 1", x.node(1, 6), 1);
        Check.unfit("drain(1, true) again", () -> x.drain(1, true));
        Check.same("its shards are available", x.damaged(), 0);
        Check.unfit("a draining node takes none", () -> x.move(0, 0, 1));
        Check.unfit("a draining node takes none, of another group either", () -> x.move(1, 1, 1));
        x.round();
        Check.same("drain(1, false)", x.drain(1, false), 2);
        Check.same("up since round 2", x.node(1, 6), 2);
        x.fail(1);
        Check.unfit("drain(1, true) of a node that is down", () -> x.drain(1, true));
        Check.unfit("drain(1, false) of a node that is down", () -> x.drain(1, false));
        Check.outside("drain(4, true)", () -> x.drain(4, true));
        Check.outside("drain(-1, false)", () -> x.drain(-1, false));
    }

    private static void setRisk() {
        RepairAuction x = Texts.loaded(Texts.SMALL);
        Check.same("setRisk(0, 999)", x.setRisk(0, 999), 100);
        Check.same("setRisk(0, 0)", x.setRisk(0, 0), 999);
        Check.same("risk", x.node(0, 2), 0);
        Check.outside("setRisk(4, 1000)", () -> x.setRisk(4, 1000));
        Check.outside("setRisk(-1, 0)", () -> x.setRisk(-1, 0));
        Check.illegal("setRisk(0, 1000)", () -> x.setRisk(0, 1000));
        Check.illegal("setRisk(0, -1)", () -> x.setRisk(0, -1));
        Check.same("risk is as it was", x.node(0, 2), 0);
    }

    private static void setBandwidth() {
        RepairAuction x = Texts.loaded(Texts.SMALL);
        Check.same("setBandwidth(1)", x.setBandwidth(1), 100);
        Check.same("setBandwidth(99999)", x.setBandwidth(99999), 1);
        Check.illegal("setBandwidth(0)", () -> x.setBandwidth(0));
        Check.illegal("setBandwidth(-1)", () -> x.setBandwidth(-1));
        Check.illegal("setBandwidth(100000)", () -> x.setBandwidth(100000));
        Check.same("bandwidth is as it was", x.bandwidth(), 99999);
    }

    private static void setRule() {
        RepairAuction x = Texts.loaded(Texts.SMALL);
        Check.same("setRule(2)", x.setRule(2), 0);
        Check.same("setRule(1)", x.setRule(1), 2);
        Check.illegal("setRule(3)", () -> x.setRule(3));
        Check.illegal("setRule(-1)", () -> x.setRule(-1));
        Check.same("setRule(0)", x.setRule(0), 1);
    }

    private static void grant() {
        RepairAuction x = Texts.loaded(Texts.SMALL);
        Check.same("grant(1, 1)", x.grant(1, 1), 1);
        Check.same("beyond the greatest purse", x.grant(0, 999999), 999999);
        for (int times = 2; times <= 10; times++) {
            Check.same("grant again", x.grant(0, 999999), times * 999999);
        }
        Check.unfit("more than 9999999", () -> x.grant(0, 10));
        Check.same("9999999", x.grant(0, 9), 9999999);
        Check.unfit("one more", () -> x.grant(0, 1));
        Check.outside("grant(2, 0)", () -> x.grant(2, 0));
        Check.outside("grant(-1, 1)", () -> x.grant(-1, 1));
        Check.illegal("grant(0, 0)", () -> x.grant(0, 0));
        Check.illegal("grant(0, 1000000)", () -> x.grant(0, 1000000));
        Check.illegal("grant(0, min)", () -> x.grant(0, Integer.MIN_VALUE));
        x.round();
        Check.same("a purse that is greater stays as it is", x.tenant(0, 2), 9999999);
    }

    private static void move() {
        RepairAuction x = Texts.loaded(Texts.SMALL);
        Check.same("move(0, 0, 2)", x.move(0, 0, 2), 0);
        Check.same("it is there", x.nodeOf(0, 0), 2);
        Check.same("one more on nc", x.node(2, 4), 2);
        Check.same("one less on na", x.node(0, 4), 0);
        Check.unfit("to a node with another shard of the group", () -> x.move(0, 0, 1));
        Check.unfit("to the node where it is", () -> x.move(0, 0, 2));
        Check.same("to a zone of the group", x.move(1, 0, 0), 1);
        x.drain(0, true);
        Check.same("from a draining node", x.move(1, 0, 1), 0);
        Check.unfit("to a draining node", () -> x.move(0, 0, 0));
        x.fail(3);
        Check.unfit("to a node that is down", () -> x.move(0, 0, 3));
        Check.unfit("a missing shard", () -> x.move(1, 2, 0));
        Check.outside("move(2, 0, 0)", () -> x.move(2, 0, 0));
        Check.outside("move(-1, 0, 0)", () -> x.move(-1, 0, 0));
        Check.outside("move(0, 2, 0)", () -> x.move(0, 2, 0));
        Check.outside("move(0, -1, 0)", () -> x.move(0, -1, 0));
        Check.outside("move(1, 2, 4)", () -> x.move(1, 2, 4));
        Check.outside("move(0, 0, -1)", () -> x.move(0, 0, -1));
        RepairAuction full = Texts.loaded(Texts.RING + "node a at 0 zone 0 risk 0 room 1;"
                + "node b at 1 zone 0 risk 0 room 2;node c at 2 zone 0 risk 0 room 1;tenant t income 0 most 0;"
                + "group g of t key 0 data 1 parity 1 size 1 value 1;"
                + "group h of t key 1 data 1 parity 1 size 1 value 1;");
        Check.unfit("to a full node", () -> full.move(0, 0, 2));
        Check.unfit("to another full node", () -> full.move(1, 1, 0));
    }

    /** Each call on an object of its own, so that none of these is used for more than 512 calls. */
    private static void undone(String call, Consumer<RepairAuction> change) {
        RepairAuction x = Texts.loaded(Texts.SMALL);
        x.fail(1);
        x.round();
        x.grant(0, 41000);
        String before = Texts.state(x);
        change.accept(x);
        Check.same(call + ": undoCount", x.undoCount(), 5);
        Check.yes(call + " changes something", !Texts.state(x).equals(before));
        Check.same("undo of " + call, x.undo(), 4);
        Check.same(call + " is undone", Texts.state(x), before);
    }

    private static void undoOfEachCall() {
        undone("fail", x -> x.fail(0));
        undone("recover", x -> x.recover(1));
        undone("drain", x -> x.drain(2, true));
        undone("round", x -> x.round());
        undone("rounds", x -> x.rounds(9));
        undone("setRisk", x -> x.setRisk(0, 7));
        undone("setBandwidth", x -> x.setBandwidth(7));
        undone("grant", x -> x.grant(1, 7));
        undone("move", x -> x.move(1, 1, 0));
        undone("load", x -> Texts.load(x, BidTest.MARKET));
        undone("setRule", x -> x.setRule(2));
        RepairAuction x = Texts.loaded(Texts.SMALL);
        x.fail(1);
        Check.outside("the output is not written yet", () -> x.outputByte(0));
        x.setBandwidth(50);
        int length = x.writeBids();
        Texts.append(x, "na");
        x.undo();
        Check.same("undo leaves the output", x.outputByte(length - 1), '\n');
        Check.same("undo leaves the input", x.find(0), 0);
    }

    private static void undoKeepsEight() {
        RepairAuction x = Texts.loaded(Texts.SMALL);
        for (int units = 1; units <= 20; units++) {
            x.setBandwidth(units);
            Check.same("undoCount", x.undoCount(), Math.min(8, units + 1));
        }
        for (int units = 19; units >= 12; units--) {
            Check.same("undo", x.undo(), units - 12);
            Check.same("bandwidth behind undo", x.bandwidth(), units);
        }
        Check.unfit("undo of nothing", () -> x.undo());
        Check.same("bandwidth is as it was", x.bandwidth(), 12);
        Check.same("undoCount is 0", x.undoCount(), 0);
        x.setBandwidth(5);
        x.setBandwidth(6);
        x.undo();
        x.setBandwidth(7);
        Check.same("undo behind a new call", x.undo(), 1);
        Check.same("bandwidth behind that", x.bandwidth(), 5);
        Check.unfit("undo of a new object", () -> new RepairAuction().undo());
    }

    private static void undoOfLoad() {
        RepairAuction x = Texts.loaded(Texts.SMALL);
        x.undo();
        Check.same("no nodes", x.count(0), 0);
        Check.same("bandwidth 1", x.bandwidth(), 1);
        Check.same("no undo", x.undoCount(), 0);
        Texts.load(x, Texts.SMALL);
        x.rounds(45);
        Texts.load(x, Texts.RING);
        Check.same("the history is gone", x.historySize(), 0);
        x.undo();
        Check.same("the history is back", x.historySize(), 40);
        Check.same("its rounds, too", x.history(0, 0), 5);
        Check.same("names are back", Texts.find(x, 2, "gb"), 1);
    }

    private static void callsThatThrowAreNotKept() {
        RepairAuction x = Texts.loaded(Texts.SMALL);
        x.fail(0);
        String before = Texts.state(x);
        Check.unfit("fail", () -> x.fail(0));
        Check.unfit("recover", () -> x.recover(1));
        Check.unfit("drain", () -> x.drain(0, true));
        Check.illegal("rounds", () -> x.rounds(101));
        Check.illegal("setRisk", () -> x.setRisk(0, 1000));
        Check.illegal("setBandwidth", () -> x.setBandwidth(0));
        Check.illegal("setRule", () -> x.setRule(3));
        Check.illegal("grant", () -> x.grant(0, 0));
        Check.unfit("move", () -> x.move(0, 0, 3));
        Texts.load(x, "ring");
        Check.same("none of these changes anything", Texts.state(x), before);
        Check.same("none of these is kept", x.undoCount(), 2);
    }
}
