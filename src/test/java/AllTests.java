/** Runs all tests; the arguments are the paths of DOC.md and of RepairAuction.java. */
final class AllTests {
    private AllTests() {
    }

    public static void main(String[] args) throws Exception {
        Sentence.open(args[0]);
        InputTest.run();
        RingTest.run();
        LossTest.run();
        BidTest.run();
        ChangeTest.run();
        RoundTest.run();
        ForecastTest.run();
        OutputTest.run();
        EdgeInputTest.run();
        EdgeRingTest.run();
        EdgeLossTest.run();
        EdgeBidTest.run();
        EdgeRoundTest.run();
        EdgeChangeTest.run();
        EdgeForecastTest.run();
        RangeTest.run();
        Sentence.close();
        FaceTest.run(args[0], args[1]);
        ModelTest.run();
        System.out.println(Check.passed() + " passed, " + Check.failed() + " failed");
        if (Check.failed() > 0) {
            System.exit(1);
        }
    }
}
