import java.util.function.Consumer;

/** The edges that section 6 and promises 34 to 36, 39 to 43, 57 and 58 name, sentence by sentence. */
final class EdgeChangeTest {
    private static final int UP = 0;
    private static final int DOWN = 1;
    private static final int DRAINING = 2;
    private static final String ONE = Texts.ring(1, 0, 0, "first");
    private static final String RICH = Texts.tenant("t", 999999, 999999);

    private EdgeChangeTest() {
    }

    static void run() {
        fail();
        recover();
        recoverBehindRepairs();
        drain();
        setRisk();
        setBandwidth();
        setRule();
        grant();
        move();
        moveRefused();
        undoableCalls();
        otherCalls();
        lastEight();
        undoRestores();
        undo();
        undoCount();
        Sentence.end();
    }

    /** The ten groups g to p on a and b. */
    private static RepairAuction ten() {
        StringBuilder text = new StringBuilder(ONE + Texts.FOUR + RICH);
        for (int group = 0; group < 10; group++) {
            text.append(Texts.pair("" + (char) ('g' + group), "t", 1, 1));
        }
        return Texts.loaded(text.toString());
    }

    private static void fail() {
        Sentence.of(34, "A node fails: it is down.");
        RepairAuction x = ten();
        x.fail(3);
        Check.same("a node that was up", x.node(3, 5), DOWN);
        x.drain(2, true);
        x.fail(2);
        Check.same("a node that was draining", x.node(2, 5), DOWN);
        Check.same("the others are up", x.node(0, 5) + x.node(1, 5), UP);
        Sentence.of(34, "Returns the set of the groups that are lost then and were not before.");
        Check.same("damaged by b, but a has a shard", ten().fail(1), 0);
        RepairAuction two = Texts.loaded(ONE + Texts.FOUR + RICH + Texts.group("g", "t", 0, 2, 1, 1, 1));
        Check.same("a and b are enough", two.fail(2), 0);
        Check.same("a alone is not", two.fail(1), 1);
        Check.same("it was lost before", two.fail(0), 0);
        Check.same("damaged, but not lost", x.fail(0), 0);
        Check.same("all groups", x.fail(1), 1023);
        RepairAuction y = ten();
        y.move(0, 0, 2);
        y.move(9, 0, 3);
        y.fail(0);
        Check.same("all but the first and the last group", y.fail(1), 510);
        Check.same("the first one alone, for the others were lost before", y.fail(2), 1);
        Check.same("the last one", y.fail(3), 512);
        Check.same("a node without shards", Texts.loaded(ONE + Texts.FOUR).fail(3), 0);
        Sentence.of(34, "Throws `IllegalStateException` if it is down already");
        Check.unfit("fail(3) again", () -> y.fail(3));
        Check.same("undoCount is as it was", y.undoCount(), 7);
        y.recover(3);
        Check.same("behind recover()", y.fail(3), 512);
    }

    private static void recover() {
        Sentence.of(35, "A node that is down is up again.");
        RepairAuction x = ten();
        x.drain(3, true);
        x.fail(3);
        x.recover(3);
        Check.same("up, even if it was draining", x.node(3, 5), UP);
        Sentence.of(35, "Returns the set of the groups that were lost and are not any more.");
        x.move(9, 0, 3);
        x.fail(0);
        Check.same("groups that were not lost", x.recover(0), 0);
        x.fail(0);
        x.fail(1);
        Check.same("all but the last one", x.recover(1), 511);
        x.fail(3);
        x.fail(1);
        Check.same("the last one", x.recover(3), 512);
        Check.same("the others", x.recover(0), 511);
        Check.same("none is left", x.recover(1), 0);
        Sentence.of(35, "Throws `IllegalStateException` if it is not down");
        Check.unfit("a node that is up", () -> x.recover(1));
        x.drain(1, true);
        Check.unfit("a draining node", () -> x.recover(1));
        Check.same("it is draining still", x.node(1, 5), DRAINING);
    }

    private static void recoverBehindRepairs() {
        Sentence.of(35, "The shards on it are available again, but those that were placed anew meanwhile are not on it any more.");
        RepairAuction x = ten();
        x.setBandwidth(18);
        x.fail(1);
        x.round();
        Check.same("the last group has no new place", x.damaged(), 512);
        x.recover(1);
        Check.same("its shard is available", x.missing(9), 0);
        Check.same("and alone on b", x.groupsOn(1), 512);
        Check.same("one shard on b", x.node(1, 4), 1);
        Check.same("nine on c", x.node(2, 4), 9);
    }

    private static void drain() {
        Sentence.of(36, "Makes a node that is up draining, or a draining one up.", "- `draining`: true to make it draining");
        RepairAuction x = ten();
        x.drain(0, true);
        Check.same("draining", x.node(0, 5), DRAINING);
        x.drain(0, false);
        Check.same("up", x.node(0, 5), UP);
        Sentence.of(36, "Returns the number of shards on it.");
        Check.same("all ten", x.drain(0, true), 10);
        Check.same("all ten, back", x.drain(0, false), 10);
        Check.same("none", x.drain(3, true), 0);
        x.move(4, 1, 2);
        Check.same("one", x.drain(2, true), 1);
        Check.same("nine", x.drain(1, true), 9);
        Sentence.of(36, "Throws `IllegalStateException` if it is down, or it is so already");
        Check.unfit("drain(0, false) of a node that is up", () -> x.drain(0, false));
        Check.unfit("drain(1, true) of a draining node", () -> x.drain(1, true));
        x.fail(0);
        Check.unfit("drain(0, true) of a node that is down", () -> x.drain(0, true));
        Check.unfit("drain(0, false) of a node that is down", () -> x.drain(0, false));
        x.fail(1);
        Check.unfit("drain(1, true) of a node that was draining", () -> x.drain(1, true));
        Check.unfit("drain(1, false) of a node that was draining", () -> x.drain(1, false));
        Check.same("it is down still", x.node(1, 5), DOWN);
    }

    private static void setRisk() {
        Sentence.of(39, "Changes the risk of a node.", "- `risk`: 0 to 999", "Returns the previous risk.");
        RepairAuction x = ten();
        Check.same("setRisk(0, 0)", x.setRisk(0, 0), 1);
        Check.same("setRisk(0, 999)", x.setRisk(0, 999), 0);
        Check.same("the same again", x.setRisk(0, 999), 999);
        Check.same("the risk", x.node(0, 2), 999);
        Check.same("the last node's", x.setRisk(3, 1), 0);
        Check.illegal("setRisk(0, 1000)", () -> x.setRisk(0, 1000));
        Check.illegal("setRisk(0, -1)", () -> x.setRisk(0, -1));
        Check.outside("setRisk(4, -1)", () -> x.setRisk(4, -1));
        x.fail(0);
        Check.same("of a node that is down", x.setRisk(0, 5), 999);
        x.recover(0);
        Check.same("it stays behind recover()", x.node(0, 2), 5);
    }

    private static void setBandwidth() {
        Sentence.of(40, "Changes the bandwidth of a round.", "- `units`: 1 to 99999", "Returns the previous one.");
        RepairAuction x = new RepairAuction();
        Check.same("setBandwidth(1)", x.setBandwidth(1), 1);
        Check.same("setBandwidth(99999)", x.setBandwidth(99999), 1);
        Check.same("the bandwidth", x.bandwidth(), 99999);
        Check.illegal("setBandwidth(0)", () -> x.setBandwidth(0));
        Check.illegal("setBandwidth(-1)", () -> x.setBandwidth(-1));
        Check.illegal("setBandwidth(100000)", () -> x.setBandwidth(100000));
        Texts.load(x, Texts.ring(5, 3, 0, "first"));
        x.round();
        Check.same("without what is carried over", x.setBandwidth(7), 5);
        Check.same("with it", x.bandwidth(), 10);
    }

    private static void setRule() {
        Sentence.of(41, "Changes the price rule.", "- `rule`: 0 first; 1 second; 2 uniform", "Returns the previous rule.");
        RepairAuction x = Texts.loaded(Texts.ring(3, 0, 0, "uniform") + Texts.FOUR + RICH + Texts.pair("g", "t", 1, 9)
                + Texts.pair("h", "t", 1, 7) + Texts.pair("i", "t", 1, 5));
        x.fail(1);
        x.setBandwidth(5);
        int[] prices = {9, 7, 5};
        int previous = 2;
        for (int rule : new int[] {0, 1, 2, 2, 1, 0, 0}) {
            Check.same("the previous rule", x.setRule(rule), previous);
            Check.same("the price with rule " + rule, x.outcome(0, 1), prices[rule]);
            previous = rule;
        }
        Check.illegal("setRule(-1)", () -> x.setRule(-1));
        Check.illegal("setRule(3)", () -> x.setRule(3));
        Check.same("the rule is as it was", x.setRule(1), 0);
    }

    private static void grant() {
        Sentence.of(42, "Gives a tenant credits, beyond its greatest purse if need be.", "- `credits`: 1 to 999999", "Returns the new purse.");
        RepairAuction x = Texts.loaded(ONE + Texts.tenant("t", 0, 5) + Texts.tenant("u", 0, 0));
        Check.same("grant(0, 1)", x.grant(0, 1), 1);
        Check.same("up to the greatest purse", x.grant(0, 4), 5);
        Check.same("beyond it", x.grant(0, 1), 6);
        Check.same("beyond a greatest purse of 0", x.grant(1, 999999), 999999);
        Check.same("the purse", x.tenant(1, 2), 999999);
        Check.illegal("grant(0, 0)", () -> x.grant(0, 0));
        Check.illegal("grant(0, -1)", () -> x.grant(0, -1));
        Check.illegal("grant(0, 1000000)", () -> x.grant(0, 1000000));
        Check.outside("grant(2, 0)", () -> x.grant(2, 0));
        Sentence.of(42, "Throws `IllegalStateException` if the purse would be more than 9999999");
        for (int times = 2; times <= 10; times++) {
            x.grant(1, 999999);
        }
        Check.same("a purse of 9999990", x.tenant(1, 2), 9999990);
        Check.unfit("grant(1, 10)", () -> x.grant(1, 10));
        Check.unfit("grant(1, 999999)", () -> x.grant(1, 999999));
        Check.same("the purse is as it was", x.tenant(1, 2), 9999990);
        Check.same("the last call is the one that was not refused", x.undoCount(), 8);
        x.undo();
        Check.same("and it is undone", x.tenant(1, 2), 8999991);
        Check.same("grant(1, 999999) again", x.grant(1, 999999), 9999990);
        Check.same("grant(1, 9)", x.grant(1, 9), 9999999);
        Check.unfit("grant(1, 1)", () -> x.grant(1, 1));
        Check.illegal("grant(1, 0)", () -> x.grant(1, 0));
        Check.illegal("grant(1, 1000000)", () -> x.grant(1, 1000000));
    }

    private static void move() {
        Sentence.of(43, "Moves an available shard to another node.", "Returns the node on which it was.");
        RepairAuction x = Texts.loaded(ONE + Texts.nodes(16, 0, 9) + RICH + Texts.group("g", "t", 0, 6, 4, 1, 1));
        Check.same("the last shard to the last node", x.move(0, 9, 15), 9);
        Check.same("it is there", x.nodeOf(0, 9), 15);
        Check.same("a shard on the new node", x.node(15, 4), 1);
        Check.same("none on the old one", x.node(9, 4), 0);
        Check.same("the first shard to where that was", x.move(0, 0, 9), 0);
        Check.same("and back", x.move(0, 0, 0), 9);
        x.drain(0, true);
        Check.same("away from a draining node", x.move(0, 0, 10), 0);
        Check.same("into a zone of another shard: 2", x.move(0, 0, 12), 10);
        Check.same("nothing else has moved", x.nodeOf(0, 1), 1);
    }

    private static void moveRefused() {
        Sentence.of(43, "Throws `IllegalStateException` if the shard is missing, or the node cannot take it (section 2)");
        RepairAuction x = Texts.loaded(ONE + Texts.FOUR.replace("zone 3 risk 0 room 50", "zone 3 risk 0 room 1") + RICH
                + Texts.pair("g", "t", 1, 1) + Texts.group("h", "t", 20, 1, 1, 1, 1));
        Check.unfit("to the same node", () -> x.move(0, 0, 0));
        Check.unfit("to the other shard's node", () -> x.move(0, 0, 1));
        Check.unfit("to a full node", () -> x.move(0, 0, 3));
        x.drain(2, true);
        Check.unfit("to a draining node", () -> x.move(0, 0, 2));
        x.fail(2);
        Check.unfit("to a node that is down", () -> x.move(0, 0, 2));
        x.move(1, 1, 0);
        Check.same("to d, which has room now", x.move(0, 0, 3), 0);
        x.fail(3);
        Check.unfit("a missing shard", () -> x.move(0, 0, 0));
        Check.same("it stays where it is", x.nodeOf(0, 0), 3);
        Check.outside("a missing shard to a node that does not exist", () -> x.move(0, 0, 4));
        Check.outside("shard 2 of 2", () -> x.move(0, 2, 0));
        Check.outside("shard -1", () -> x.move(0, -1, 0));
        Check.outside("group 2 of 2", () -> x.move(2, 0, 0));
        Check.outside("group -1", () -> x.move(-1, 0, 0));
        Check.outside("node -1", () -> x.move(0, 1, -1));
    }

    /** Checks that the call can be undone, and that all is then as it was. */
    private static void undone(String call, RepairAuction x, Consumer<RepairAuction> change) {
        int calls = x.undoCount();
        String before = Texts.state(x);
        change.accept(x);
        Check.same(call + ": undoCount", x.undoCount(), calls + 1);
        Check.yes(call + " changes something", !Texts.state(x).equals(before));
        Check.same("undo of " + call, x.undo(), calls);
        Check.same("the state behind undo of " + call, Texts.state(x), before);
    }

    private static RepairAuction small() {
        RepairAuction x = Texts.loaded(Texts.SMALL);
        x.fail(1);
        x.grant(0, 25000);
        x.round();
        return x;
    }

    private static void undoableCalls() {
        Sentence.of(0, "6. UNDO. Each successful load(), and each call of fail(), recover(), drain(), round(), rounds(), setRisk(), setBandwidth(), "
                + "setRule(), grant() and move() that does not throw can be undone;");
        undone("load()", small(), x -> Texts.load(x, ONE));
        undone("fail()", small(), x -> x.fail(0));
        undone("recover()", small(), x -> x.recover(1));
        undone("drain()", small(), x -> x.drain(0, true));
        undone("round()", small(), x -> x.round());
        undone("rounds()", small(), x -> x.rounds(9));
        undone("setRisk()", small(), x -> x.setRisk(0, 0));
        undone("setBandwidth()", small(), x -> x.setBandwidth(1));
        undone("setRule()", small(), x -> x.setRule(1));
        undone("grant()", small(), x -> x.grant(1, 1));
        undone("move()", small(), x -> x.move(0, 0, 2));
        undone("load() of a new object", new RepairAuction(), x -> Texts.load(x, Texts.SMALL));
        undone("round() of a new object", new RepairAuction(), x -> x.round());
        RepairAuction same = Texts.loaded(Texts.SMALL);
        same.setRisk(0, 100);
        same.setBandwidth(100);
        same.setRule(0);
        same.round();
        Check.same("calls that change nothing are calls, too", same.undoCount(), 5);
    }

    private static void otherCalls() {
        Sentence.of(0, "can be undone;");
        RepairAuction x = Texts.loaded(Texts.SMALL);
        x.fail(1);
        Texts.load(x, "ring");
        Check.unfit("fail()", () -> x.fail(1));
        Check.unfit("recover()", () -> x.recover(0));
        Check.unfit("drain()", () -> x.drain(0, false));
        Check.illegal("rounds()", () -> x.rounds(0));
        Check.illegal("setRisk()", () -> x.setRisk(0, -1));
        Check.illegal("setBandwidth()", () -> x.setBandwidth(0));
        Check.illegal("setRule()", () -> x.setRule(3));
        Check.illegal("grant()", () -> x.grant(0, 0));
        Check.unfit("move()", () -> x.move(0, 0, 0));
        x.append(0, 0, 0, 0, 0);
        x.truncate(0);
        x.find(0);
        x.writeBids();
        x.roundsToCalm();
        x.soldIn(300);
        Check.same("none of these can be undone", x.undoCount(), 2);
    }

    private static void lastEight() {
        Sentence.of(0, "the last 8 are kept.");
        for (int calls = 0; calls <= 20; calls++) {
            RepairAuction x = new RepairAuction();
            for (int call = 1; call <= calls; call++) {
                x.setBandwidth(100 + call);
                Check.same("undoCount behind " + call, x.undoCount(), Math.min(8, call));
            }
            int kept = Math.min(8, calls);
            for (int left = kept - 1; left >= 0; left--) {
                Check.same("undo with " + calls + " calls", x.undo(), left);
                int before = calls - kept + left;
                Check.same("bandwidth", x.bandwidth(), before == 0 ? 1 : 100 + before);
            }
            Check.unfit("undo of one more", () -> x.undo());
            Check.same("nothing has changed", x.bandwidth(), calls <= 8 ? 1 : 100 + calls - 8);
        }
        RepairAuction loads = new RepairAuction();
        for (int bandwidth = 1; bandwidth <= 9; bandwidth++) {
            Texts.load(loads, Texts.ring(bandwidth, 0, 0, "first"));
        }
        Check.same("nine calls of load()", loads.undoCount(), 8);
        Texts.load(loads, "ring");
        Check.same("load() with an error takes no place", loads.undoCount(), 8);
        for (int bandwidth = 8; bandwidth >= 1; bandwidth--) {
            loads.undo();
            Check.same("bandwidth of a load() before", loads.bandwidth(), bandwidth);
        }
        Check.same("the first one is not kept", loads.undoCount(), 0);
        RepairAuction mixed = Texts.loaded(Texts.SMALL);
        for (int times = 0; times < 3; times++) {
            mixed.setRisk(0, 1);
            mixed.undo();
            Check.same("undo() and new calls in turn", mixed.undoCount(), 1);
        }
        mixed.rounds(100);
        mixed.rounds(100);
        Check.same("rounds() is one call", mixed.undoCount(), 3);
    }

    private static void undoRestores() {
        Sentence.of(0, "undo() restores everything except the two buffers and the parse error.");
        RepairAuction x = RangeTest.make(1);
        String before = Texts.state(x);
        x.truncate(0);
        Texts.load(x, "ring bandwidth 1 carry 1 reserve 1 price second;" + Texts.nodes(16, 999, 1));
        x.setBandwidth(99999);
        x.rounds(100);
        x.fail(15);
        Texts.load(x, "  x");
        x.undo();
        x.undo();
        x.undo();
        Texts.append(x, "nc");
        x.undo();
        Check.same("everything", Texts.state(x), before);
        Check.same("but not the parse error's code", x.errorCode(), 1);
        Check.same("and not its position", x.errorPosition(), 2);
        Check.same("nor the input", Texts.inputLength(x), 2);
        Check.same("which names a node", x.find(0), 2);
        Check.yes("the output is there", x.outputByte(0) == 'g');
        x.setRisk(3, 0);
        int length = x.writeBids();
        String written = Texts.written(x);
        x.undo();
        x.undo();
        Check.same("undo() leaves the output", Texts.written(x), written);
        Check.same("and its length", written.length(), length);
        RepairAuction y = Texts.loaded(ONE);
        y.undo();
        Check.same("load() without an error", y.errorCode(), 0);
        Check.same("and undo() of it", y.errorPosition(), RepairAuction.NONE);
        Check.same("the input is not brought back", Texts.inputLength(y), 0);
    }

    private static void undo() {
        Sentence.of(57, "Undoes the latest call that can be undone (section 6).", "Returns how many calls can still be undone.");
        RepairAuction x = Texts.loaded(Texts.SMALL);
        x.fail(0);
        x.setRisk(0, 999);
        Check.same("the latest one", x.undo(), 2);
        Check.same("setRisk() is undone", x.node(0, 2), 100);
        Check.same("fail() is not", x.node(0, 5), DOWN);
        Check.same("the next one", x.undo(), 1);
        Check.same("fail() is undone", x.node(0, 5), UP);
        Check.same("the last one", x.undo(), 0);
        Check.same("load() is undone", x.count(0), 0);
        Sentence.of(57, "Throws `IllegalStateException` if there is nothing to undo");
        Check.unfit("undo()", () -> x.undo());
        Check.unfit("undo() again", () -> x.undo());
        Check.unfit("undo() of a new object", () -> new RepairAuction().undo());
        RepairAuction failed = new RepairAuction();
        Texts.load(failed, "ring");
        Check.unfit("undo() behind a load() with an error", () -> failed.undo());
        Check.same("the error stays", failed.errorCode(), 1);
    }

    private static void undoCount() {
        Sentence.of(58, "Returns how many calls can be undone.");
        RepairAuction x = new RepairAuction();
        Check.same("none", x.undoCount(), 0);
        x.round();
        Check.same("one", x.undoCount(), 1);
        for (int times = 0; times < 7; times++) {
            x.round();
        }
        Check.same("eight", x.undoCount(), 8);
        x.round();
        Check.same("not nine", x.undoCount(), 8);
        x.undo();
        Check.same("seven", x.undoCount(), 7);
    }
}
