import java.io.IOException;
import java.nio.file.Files;
import java.nio.file.Path;
import java.util.ArrayList;
import java.util.List;
import java.util.regex.Matcher;
import java.util.regex.Pattern;

/** README.md's examples: they stand below line by line, and answer what README.md says. */
final class ReadmeTests {
    private ReadmeTests() {
    }

    static void add(Path project) {
        Check.test("README.md: its examples are those that are tested", () -> sameLines(project));
        Check.test("README.md: its examples answer what it says", () -> answers(project));
        Check.test("README.md: each call is named", () -> names(project));
    }

    private static int[] example() {
        // README.md from here
        RollerMesh shop = new RollerMesh();
        int upper = shop.roller(4, 0);
        int lower = shop.roller(2, 0);
        int before = shop.file(upper, 3, 5);
        int reason = shop.why(upper, lower, 0, 4, 0);
        int step = shop.why(upper, lower, 0, 4, 1);
        int gap = shop.leastGap(upper, lower, 0);
        int thickest = shop.thickest(upper, lower, 0, gap);
        int torn = shop.run(upper, lower, 0, gap, 10, 3);
        int left = shop.undo();
        int error = shop.set(RollerMesh.WEAR, 0);
        int length = shop.put(0x2B312C323B6D30L);
        int fault = shop.fault();
        int orders = shop.carryOut();
        // README.md to here
        return new int[] {upper, lower, before, reason, step, gap, thickest, torn, left, error, length, fault, orders};
    }

    private static List<String> linesBetween(Path file, String from, String to) {
        List<String> lines = new ArrayList<>();
        boolean within = false;
        for (String line : lines(file)) {
            if (line.strip().equals(from)) {
                within = true;
            } else if (line.strip().equals(to)) {
                within = false;
            } else if (within) {
                lines.add(line.strip());
            }
        }
        return lines;
    }

    private static List<String> lines(Path file) {
        try {
            return Files.readAllLines(file);
        } catch (IOException unread) {
            throw new IllegalStateException(unread);
        }
    }

    private static List<String> examplesOf(Path project) {
        return linesBetween(project.resolve("README.md"), "```java", "```");
    }

    private static void sameLines(Path project) {
        List<String> told = new ArrayList<>();
        for (String line : examplesOf(project)) {
            told.add(line.replaceFirst(" *//.*", ""));
        }
        List<String> tested = linesBetween(project.resolve("src/test/java/ReadmeTests.java"), "// README.md from here",
            "// README.md to here");
        Check.dueText("the examples", String.join("\n", tested), String.join("\n", told));
    }

    /** Behind each call README.md says its answer first. */
    private static void answers(Path project) {
        Pattern said = Pattern.compile("int (\\w+) = .*// (-?\\d+)\\b.*");
        int[] answers = example();
        int at = 0;
        for (String line : examplesOf(project)) {
            Matcher answer = said.matcher(line);
            if (answer.matches() && at < answers.length) {
                Check.due(answer.group(1), Long.parseLong(answer.group(2)), answers[at]);
                at++;
            }
        }
        Check.due("how many answers README.md says", answers.length, at);
    }

    private static void names(Path project) {
        String text = String.join("\n", lines(project.resolve("README.md")));
        for (String call : Calls.NAMES) {
            Check.due("`" + call + "` stands in it", 1, text.contains("`" + call + "`") ? 1 : 0);
        }
    }
}
