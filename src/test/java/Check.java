import java.util.LinkedHashMap;
import java.util.Map;

/** Runs tests by name, and counts those in which an answer was not as due. */
final class Check {
    private static final Map<String, Runnable> TESTS = new LinkedHashMap<>();
    private static int wrongAnswers;

    private Check() {
    }

    static void test(String name, Runnable test) {
        if (TESTS.put(name, test) != null) {
            throw new IllegalStateException("two tests bear the name " + name);
        }
    }

    static void due(String what, long want, long got) {
        if (want != got) {
            wrongAnswers++;
            System.out.println("  " + what + " answered " + got + ", due is " + want);
        }
    }

    static void dueText(String what, String want, String got) {
        if (!want.equals(got)) {
            wrongAnswers++;
            System.out.println("  " + what + " is " + got + ", due is " + want);
        }
    }

    /** Returns how many tests failed. */
    static int runAll() {
        int passed = 0;
        for (Map.Entry<String, Runnable> test : TESTS.entrySet()) {
            wrongAnswers = 0;
            try {
                test.getValue().run();
            } catch (RuntimeException thrown) {
                wrongAnswers++;
                thrown.printStackTrace(System.out);
            }
            if (wrongAnswers == 0) {
                passed++;
            } else {
                System.out.println("failed: " + test.getKey());
            }
        }
        int failed = TESTS.size() - passed;
        System.out.println(passed + " passed, " + failed + " failed");
        return failed;
    }
}
