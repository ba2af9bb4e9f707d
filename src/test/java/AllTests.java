/** Runs every test of the project; the argument is the project's folder. */
public final class AllTests {
    private AllTests() {
    }

    public static void main(String[] args) {
        ChangeTests.add();
        LookTests.add();
        PairTests.add();
        TextTests.add();
        HistoryTests.add();
        if (Check.runAll() != 0) {
            System.exit(1);
        }
    }
}
