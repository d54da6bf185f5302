import java.nio.file.Path;

/** Runs every test of the project; ends with exit code 1 if one fails. */
public final class AllTests {
    private static final int RANDOM_RUNS = 400;

    private AllTests() {
    }

    public static void main(String[] args) {
        Path program = Path.of(args.length > 0 ? args[0] : "src/main/java/Versefold.java").toAbsolutePath();
        FaceTest.run();
        LanguageTest.run(program);
        ReadmeTest.run(program.resolve("../../../../README.md").normalize());
        FactsTest.run();
        RulesTest.run();
        AnswersTest.run();
        ReasonsTest.run();
        ForgettingTest.run();
        BranchesTest.run();
        ListenersTest.run();
        FiguresTest.run();
        FactEdgesTest.run();
        RuleEdgesTest.run();
        AnswerEdgesTest.run();
        ReasonEdgesTest.run();
        ForgettingEdgesTest.run();
        BranchEdgesTest.run();
        ListenerEdgesTest.run();
        FigureEdgesTest.run();
        RangesTest.run();
        RandomRunsTest.run(0, args.length > 1 ? Integer.parseInt(args[1]) : RANDOM_RUNS);
        Check.printSummary();
        if (Check.failures() > 0) {
            System.exit(1);
        }
    }
}
