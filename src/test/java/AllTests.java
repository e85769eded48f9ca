import java.nio.file.Path;
import java.nio.file.Paths;

/** Runs all tests; the arguments are the directories of this project and of DOC.md. */
final class AllTests {
    private AllTests() {
    }

    public static void main(String[] args) throws Exception {
        Path own = Paths.get(args[0]);
        String document = Paths.get(args[1], "DOC.md").toString();
        String source = own.resolve("src/main/java/RepairAuction.java").toString();
        Sentence.open(document);
        InputTest.run();
        RingTest.run();
        LossTest.run();
        BidTest.run();
        ChangeTest.run();
        RoundTest.run();
        ForecastTest.run();
        OutputTest.run();
        EdgeInputTest.run();
        EdgeRingTest.run();
        EdgeLossTest.run();
        EdgeBidTest.run();
        EdgeRoundTest.run();
        EdgeChangeTest.run();
        EdgeForecastTest.run();
        RangeTest.run();
        Sentence.close();
        FaceTest.run(document, source);
        LanguageTest.run(source);
        ReadmeTest.run(own.resolve("README.md").toString(), document, own.resolve("src/test/java/Example.java").toString());
        ModelTest.run();
        System.out.println(Check.passed() + " passed, " + Check.failed() + " failed");
        if (Check.failed() > 0) {
            System.exit(1);
        }
    }
}
