import java.io.IOException;
import java.nio.file.Files;
import java.nio.file.Path;
import java.util.ArrayList;
import java.util.BitSet;
import java.util.LinkedHashMap;
import java.util.List;
import java.util.Map;
import java.util.Set;
import java.util.regex.Matcher;
import java.util.regex.Pattern;

/** Holds the tests of boundary cases to the document: what they quote stands in it, and no clause is left out. */
final class DocumentTests {
    /** Words that name no boundary case, or but what the words beside them say; promises begin with a signature. */
    private static final Pattern NO_CASE = Pattern.compile("(?m)^`[^`]*`:(?= [A-Z])"
        + "|^Embossing rollers .*|what later calls answer is free\\.|CONVENTIONS\\.|When they turn,"
        + "|Divisions are rounded down\\.|\\(In parentheses: range; first value\\.\\)|^The constants:"
        + "|^Ahead of the calls .* the interface says: ----( changes| what there is| texts| undo, saving|)"
        + "|Returns the number;|- `what`:|They are given as a number:|Returns (something about|a number).*"
        + "|Tells why a pair does not mesh:");

    private DocumentTests() {
    }

    static void add(Path project) {
        Path file = project.resolve("../shared/DOC.md");
        if (!Files.exists(file)) {
            System.out.println("no document at " + file + ": what the tests quote is not looked up");
            return;
        }
        Check.test("the document: each quotation stands in it", () -> quotations(sections(file)));
        Check.test("the document: each clause is quoted by a test", () -> clauses(sections(file)));
    }

    /** The text under each head, in one line. */
    private static Map<String, String> sections(Path file) {
        Map<String, String> sections = new LinkedHashMap<>();
        String head = "";
        for (String line : lines(file)) {
            if (line.startsWith("#")) {
                head = line.replaceFirst("#+ *", "");
                sections.put(head, "");
            } else if (!line.isBlank() && !line.startsWith("```")) {
                sections.merge(head, line.strip(), (text, more) -> text + "\n" + more);
            }
        }
        return sections;
    }

    private static List<String> lines(Path file) {
        try {
            return Files.readAllLines(file);
        } catch (IOException unread) {
            throw new IllegalStateException(unread);
        }
    }

    private static void quotations(Map<String, String> sections) {
        Edges.quoted().forEach((head, quotations) -> {
            String section = sections.getOrDefault(head, "");
            for (String words : quotations) {
                Check.due(head + " says '" + words + "'", 1, section.contains(words) ? 1 : 0);
            }
        });
    }

    private static void clauses(Map<String, String> sections) {
        for (Map.Entry<String, String> section : sections.entrySet()) {
            if (Set.of("The public face", "Not promised", "RollerMesh").contains(section.getKey())) {
                continue;
            }
            BitSet quoted = quotedPlaces(section.getValue(), Edges.quoted().getOrDefault(section.getKey(), List.of()));
            int from = 0;
            for (String clause : split(section.getValue())) {
                boolean left = quoted.get(from, from + clause.length()).isEmpty();
                Check.dueText("what is quoted by no test under " + section.getKey(), "", left ? clause : "");
                from += clause.length() + 1;
            }
        }
    }

    /** The places that are quoted, and those that need not be. */
    private static BitSet quotedPlaces(String section, List<String> quotations) {
        BitSet places = new BitSet();
        for (String words : quotations) {
            for (int at = section.indexOf(words); at >= 0; at = section.indexOf(words, at + 1)) {
                places.set(at, at + words.length());
            }
        }
        Matcher noCase = NO_CASE.matcher(section);
        while (noCase.find()) {
            places.set(noCase.start(), noCase.end());
        }
        return places;
    }

    /** Clauses end with a line, or with a mark that a blank follows; what stands between two of them is one sign. */
    private static List<String> split(String section) {
        List<String> clauses = new ArrayList<>();
        int from = 0;
        for (int at = 0; at < section.length(); at++) {
            boolean ends = section.charAt(at) == '\n'
                || section.charAt(at) == ' ' && at > 0 && ".;:,".indexOf(section.charAt(at - 1)) >= 0;
            if (ends) {
                clauses.add(section.substring(from, at));
                from = at + 1;
            }
        }
        clauses.add(section.substring(from));
        return clauses;
    }
}
