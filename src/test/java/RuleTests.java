import java.io.IOException;
import java.lang.reflect.Executable;
import java.lang.reflect.Field;
import java.lang.reflect.Method;
import java.lang.reflect.Modifier;
import java.nio.file.Files;
import java.nio.file.Path;
import java.util.ArrayList;
import java.util.List;
import java.util.Map;
import java.util.Set;
import java.util.TreeMap;
import java.util.TreeSet;
import java.util.regex.Matcher;
import java.util.regex.Pattern;

/** The face of the document, and such rules of LANGUAGE.md as can be looked up. */
final class RuleTests {
    private static final Set<String> FACE = new TreeSet<>(Set.of("set(int,int)", "roller(int,int)",
        "file(int,int,int)", "melt(int)", "card(int,int)", "run(int,int,int,int,int,int)", "of(int,int)",
        "tooth(int,int)", "count(int)", "pair(int,int,int,int,int)", "why(int,int,int,int,int)",
        "leastGap(int,int,int)", "bestOffset(int,int,int)", "thickest(int,int,int,int)", "put(long)", "wipe()",
        "fault()", "carryOut()", "undo()", "save(int)", "restore(int)"));

    private RuleTests() {
    }

    static void add(Path project) {
        Check.test("the face: methods", RuleTests::methods);
        Check.test("the face: constants", RuleTests::constants);
        Check.test("rule 1: nothing else can be seen", RuleTests::nothingElse);
        Check.test("rules 2, 5, 11: the classes inside", RuleTests::classesInside);
        Check.test("rules 3, 4, 6, 12, 13: the source", () -> source(project));
        Check.test("rule 11: short methods", () -> shortMethods(project));
        Check.test("rules 8 and 11: no recursion, and calls that go eight deep at most", () -> depths(project));
    }

    private static void methods() {
        Set<String> found = new TreeSet<>();
        for (Method method : RollerMesh.class.getDeclaredMethods()) {
            if (!Modifier.isPrivate(method.getModifiers())) {
                Check.due(method + " is public and returns int", 1,
                    method.getModifiers() == Modifier.PUBLIC && method.getReturnType() == int.class ? 1 : 0);
                found.add(method.getName() + types(method));
            }
        }
        Check.dueText("the methods", FACE.toString(), found.toString());
        Check.due("the class is public and final", Modifier.PUBLIC | Modifier.FINAL, RollerMesh.class.getModifiers());
        Check.due("constructors", 1, RollerMesh.class.getDeclaredConstructors().length);
        Check.dueText("the constructor", "()", types(RollerMesh.class.getDeclaredConstructors()[0]));
    }

    private static String types(Executable method) {
        List<String> names = new ArrayList<>();
        for (Class<?> type : method.getParameterTypes()) {
            names.add(type.getName());
        }
        return "(" + String.join(",", names) + ")";
    }

    private static void constants() {
        int[] found = {RollerMesh.NO_SUCH, RollerMesh.BAD_VALUE, RollerMesh.BAD_TEXT, RollerMesh.TOO_MANY,
            RollerMesh.NOT_POSSIBLE, RollerMesh.NONE, RollerMesh.SLACK, RollerMesh.PULL, RollerMesh.WEAR};
        Check.dueText("the constants", "[-1, -2, -3, -4, -5, -6, 0, 1, 2]", java.util.Arrays.toString(found));
    }

    private static void nothingElse() {
        int constants = 0;
        for (Field field : RollerMesh.class.getDeclaredFields()) {
            boolean isPublic = Modifier.isPublic(field.getModifiers());
            constants += isPublic ? 1 : 0;
            Check.due(field + " is public or private", 1, isPublic || Modifier.isPrivate(field.getModifiers()) ? 1 : 0);
        }
        Check.due("public fields", 9, constants);
    }

    private static void classesInside() {
        Set<String> names = new TreeSet<>();
        FACE.forEach(signature -> names.add(signature.substring(0, signature.indexOf('('))));
        List<Class<?>> all = new ArrayList<>(List.of(RollerMesh.class.getDeclaredClasses()));
        Check.due("twelve classes at most", 1, all.size() < 12 ? 1 : 0);
        for (Class<?> inside : all) {
            Check.due(inside + " is static", 1, Modifier.isStatic(inside.getModifiers()) ? 1 : 0);
            Check.due("classes in " + inside, 0, inside.getDeclaredClasses().length);
            for (Method method : inside.getDeclaredMethods()) {
                Check.due(method + " bears a name of the face", 0, names.contains(method.getName()) ? 1 : 0);
            }
        }
        all.add(RollerMesh.class);
        for (Class<?> each : all) {
            int fields = 0;
            for (Field field : each.getDeclaredFields()) {
                boolean isStatic = Modifier.isStatic(field.getModifiers());
                fields += isStatic ? 0 : 1;
                Check.due(field + " is final if static", 1, !isStatic || Modifier.isFinal(field.getModifiers()) ? 1 : 0);
            }
            Check.due(each + " has some twenty fields at most", 1, fields <= 20 ? 1 : 0);
            for (Method method : each.getDeclaredMethods()) {
                Check.due(method + " has seven parameters at most", 1, method.getParameterCount() <= 7 ? 1 : 0);
                boolean namesake = Modifier.isPrivate(method.getModifiers()) && names.contains(method.getName());
                Check.due(method + " is private and bears a name of the face", 0, namesake ? 1 : 0);
            }
        }
    }

    private static String code(Path project) {
        try {
            String source = Files.readString(project.resolve("src/main/java/RollerMesh.java"));
            return source.replaceAll("(?s)/\\*.*?\\*/", "").replaceAll("//[^\n]*", "");
        } catch (IOException unread) {
            throw new IllegalStateException(unread);
        }
    }

    private static void source(Path project) {
        String code = code(project);
        String[] forbidden = {"\\bthrows?\\b", "\\btry\\b", "\\bcatch\\b", "\\bsynchronized\\b", "\\bassert\\b",
            "\\bimport\\b", "\\bpackage\\b", "->", "::", "\"", "\\bnull\\b", "\\bvar\\b", "\\bInteger\\b", "\\bObject\\b",
            "\\bstatic\\s*\\{", "Exact\\b", "\\bequals\\b", "\\bhashCode\\b", "\\btoString\\b"};
        for (String pattern : forbidden) {
            Matcher matcher = Pattern.compile(pattern).matcher(code);
            Check.dueText("what is forbidden as " + pattern, "", matcher.find() ? matcher.group() : "");
        }
        Set<String> library = new TreeSet<>();
        Matcher matcher = Pattern.compile("\\b(?:Math|System)\\.\\w+").matcher(code);
        while (matcher.find()) {
            library.add(matcher.group());
        }
        Check.dueText("the library", "[Math.abs, Math.max, Math.min, System.arraycopy]", library.toString());
        for (String line : code.split("\n")) {
            boolean makes = line.matches(".*\\bnew\\b.*");
            boolean once = line.matches(" {8}private final int\\[\\] \\w+ = new int\\[.*|"
                + " {8}(shop|history|slots|pad|reader|turn) = new \\w+\\((pad)?\\);");
            Check.dueText("what makes an object outside constructors", "", makes && !once ? line : "");
        }
    }

    private static void shortMethods(Path project) {
        String[] lines = code(project).split("\n");
        int begun = 0;
        for (int at = 0; at < lines.length; at++) {
            if (lines[at].matches("( {4}| {8})[\\w\\[\\] ]*\\w+\\([^;]*\\{")) {
                begun = at;
            }
            if (lines[at].matches("( {4}| {8})\\}") && at - begun > 40) {
                boolean isClass = lines[at].startsWith("    }");
                Check.due("the lines of " + lines[begun].trim(), 40, isClass ? 40 : at - begun);
            }
        }
    }

    private static void depths(Path project) {
        Map<String, Set<String>> calls = callsByName(project);
        for (String signature : FACE) {
            String name = signature.substring(0, signature.indexOf('('));
            Check.due("what " + name + " calls is known", 1, calls.containsKey(name) ? 1 : 0);
            int depth = depth(name, calls, 1);
            Check.due(name + " goes " + depth + " deep, eight at most", 1, depth <= 8 ? 1 : 0);
        }
    }

    /** Methods of one name are taken for one, so that a depth may come out too large, but never too small. */
    private static Map<String, Set<String>> callsByName(Path project) {
        Pattern begin = Pattern.compile("(?: {4}| {8})(?:[\\w\\[\\]]+ )+(\\w+)\\([^;]*\\{");
        Pattern call = Pattern.compile("\\b(\\w+)\\(");
        Map<String, Set<String>> calls = new TreeMap<>();
        Set<String> body = new TreeSet<>();
        for (String line : code(project).split("\n")) {
            Matcher begins = begin.matcher(line);
            if (begins.matches()) {
                body = calls.computeIfAbsent(begins.group(1), name -> new TreeSet<>());
                continue;
            }
            Matcher found = call.matcher(line);
            while (found.find()) {
                body.add(found.group(1));
            }
        }
        calls.values().forEach(called -> called.retainAll(calls.keySet()));
        return calls;
    }

    private static int depth(String name, Map<String, Set<String>> calls, int level) {
        int deepest = level;
        // What calls itself would have no end, and what goes nine deep has been found.
        if (level <= 8) {
            for (String called : calls.getOrDefault(name, Set.of())) {
                deepest = Math.max(deepest, depth(called, calls, level + 1));
            }
        }
        return deepest;
    }
}
