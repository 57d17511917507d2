/** Runs the project's tests: the class's source and the document are its two arguments. */
public final class AllTests {
    private AllTests() {
    }

    public static void main(String[] args) throws Exception {
        if (args.length != 2) {
            System.out.println("usage: AllTests SOURCE DOCUMENT");
            System.exit(2);
        }
        PotTests.run();
        BoundTests.run();
        PlaceTests.run();
        RefusalTests.run();
        OrderTests.run();
        EdgeTests.run();
        TimeTests.run();
        WorkTests.run();
        JoinTests.run();
        PieceTests.run();
        LehrTests.run();
        CutTests.run();
        TradeTests.run();
        FigureTests.run();
        ExampleTests.run();
        RandomTests.run();
        ModelTests.run();
        FaceTests.run(args[0], args[1]);
        System.out.println(Check.passed + " passed, " + Check.failed + " failed");
        System.exit(Check.failed == 0 && Check.passed > 0 ? 0 : 1);
    }
}
