import java.util.Set;
import java.util.TreeSet;
import java.util.regex.Matcher;
import java.util.regex.Pattern;

/** Runs the project's tests from the top of the checkout: the class's source, the document and README.md are told. */
public final class AllTests {
    private AllTests() {
    }

    public static void main(String[] args) throws Exception {
        if (args.length != 3) {
            System.out.println("usage: AllTests SOURCE DOCUMENT README");
            System.exit(2);
        }
        PotTests.run();
        BoundTests.run();
        PlaceTests.run();
        RefusalTests.run();
        OrderTests.run();
        EdgeTests.run();
        TimeTests.run();
        WorkTests.run();
        JoinTests.run();
        PieceTests.run();
        LehrTests.run();
        CutTests.run();
        TradeTests.run();
        FigureTests.run();
        ExampleTests.run();
        RandomTests.run();
        ModelTests.run();
        FaceTests.run(args[0], args[1]);
        ReadmeTests.run(args);
        Check.test("each promise is named by tests of its own", AllTests::eachPromiseIsNamed);
        System.out.println(Check.passed + " passed, " + Check.failed + " failed");
        System.exit(Check.failed == 0 && Check.passed > 0 ? 0 : 1);
    }

    /** Tests of many promises at once do not count. */
    private static void eachPromiseIsNamed() {
        Set<Integer> named = new TreeSet<>();
        for (String name : Check.NAMES) {
            Matcher numbers = Pattern.compile("(\\d+(?:, \\d+)*):.*").matcher(name);
            if (numbers.matches()) {
                for (String number : numbers.group(1).split(", ")) {
                    named.add(Integer.valueOf(number));
                }
            }
        }
        Set<Integer> due = new TreeSet<>();
        for (int promise = 1; promise <= 48; promise++) {
            due.add(promise);
        }
        Check.same(named, due);
    }
}
