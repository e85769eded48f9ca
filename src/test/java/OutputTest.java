/** Promises 59 and 60: the bids in the output buffer. */
final class OutputTest {
    private OutputTest() {
    }

    static void run() {
        RepairAuction x = Texts.loaded(BidTest.MARKET.replace("group h", "group hazelz"));
        Check.same("no bids", x.writeBids(), 0);
        Check.outside("outputByte(0) of no bids", () -> x.outputByte(0));
        x.fail(0);
        Check.outside("outputByte(0) before they are written", () -> x.outputByte(0));
        Check.same("bids", Texts.output(x), "g:9999/4\nhazelz:300/20\ni:300/6\nf:100/4\n");
        Check.same("writeBids", x.writeBids(), 39);
        Check.outside("outputByte(-1)", () -> x.outputByte(-1));
        Check.outside("outputByte(39)", () -> x.outputByte(39));
        Check.same("outputByte(38)", x.outputByte(38), 10);
        x.round();
        x.fail(2);
        Check.same("the output stays", x.outputByte(0), 'g');
        x.setRisk(1, 1);
        x.grant(1, 600);
        Check.same("less bids replace more", Texts.output(x), "");
        Check.outside("and nothing is left of these", () -> x.outputByte(0));
        Check.same("writing is not kept for undo", x.undoCount(), 6);
        widest();
    }

    private static void widest() {
        String text = Texts.large();
        for (int group = 0; group < 10; group++) {
            char name = (char) ('a' + group);
            text = text.replace("group " + name + " of", "group " + name + "zzzzz of");
        }
        RepairAuction x = Texts.loaded(text);
        StringBuilder due = new StringBuilder();
        for (int node = 0; node < 4; node++) {
            x.fail(node);
        }
        for (int group = 0; group < 10; group++) {
            due.append((char) ('a' + group)).append("zzzzz:9999/2800\n");
        }
        Check.same("ten bids", Texts.output(x), due.toString());
    }
}
