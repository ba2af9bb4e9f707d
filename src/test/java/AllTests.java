import java.nio.file.Path;

/** Runs every test of the project; the argument is the project's folder. */
public final class AllTests {
    private AllTests() {
    }

    public static void main(String[] args) {
        ChangeTests.add();
        LookTests.add();
        PairTests.add();
        TextTests.add();
        HistoryTests.add();
        ModelTests.add();
        ConventionEdges.add();
        RollerEdges.add();
        PairEdges.add();
        RunEdges.add();
        TextEdges.add();
        HistoryEdges.add();
        DocumentTests.add(Path.of(args.length > 0 ? args[0] : "."));
        ReadmeTests.add(Path.of(args.length > 0 ? args[0] : "."));
        RuleTests.add(Path.of(args.length > 0 ? args[0] : "."));
        if (Check.runAll() != 0) {
            System.exit(1);
        }
    }
}
