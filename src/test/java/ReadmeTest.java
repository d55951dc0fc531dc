import java.io.File;
import java.io.IOException;
import java.lang.reflect.InvocationTargetException;
import java.lang.reflect.Method;
import java.lang.reflect.Modifier;
import java.nio.charset.StandardCharsets;
import java.nio.file.Files;
import java.nio.file.Path;
import java.util.ArrayList;
import java.util.LinkedHashMap;
import java.util.List;
import java.util.Map;
import java.util.Set;
import java.util.TreeSet;
import java.util.function.IntConsumer;
import java.util.regex.Matcher;
import java.util.regex.Pattern;

/** What README.md says of the class, read out of that file itself, so that neither can drift away. */
public final class ReadmeTest {
    private static final Path README = Path.of("README.md");
    private static final Path TESTS = Path.of("src/test/java");

    private static final String NEW_OBJECT = "EntryRows x = new EntryRows();";
    private static final Pattern CALL = Pattern.compile("x\\.(\\w+)\\(([^()]*)\\);(?:\\s+// (.*))?");
    private static final Pattern REFUSAL = Pattern.compile("throws (\\w+)(?:: .*)?");
    private static final Pattern NUMBER = Pattern.compile("(-?\\d+)(?:: .*)?");
    private static final Pattern RANGE = Pattern.compile("(\\d+) \\.\\. (\\d+)");

    private final Check check = new Check();
    private final List<String> lines;
    private final Map<String, Method> face = new LinkedHashMap<>();

    private ReadmeTest() throws IOException {
        lines = Files.readAllLines(README, StandardCharsets.UTF_8);
        for (Method m : EntryRows.class.getDeclaredMethods()) {
            if (Modifier.isPublic(m.getModifiers())) {
                face.put(m.getName(), m);
            }
        }
    }

    public static void main(String[] args) throws IOException {
        ReadmeTest t = new ReadmeTest();
        t.check.runAll(t);
        t.check.end();
    }

    // The runs of calls.

    void eachCallAnswersAsItIsShown() throws IllegalAccessException {
        EntryRows x = null;
        for (String line : shownLines()) {
            check.about("README.md: " + line);
            Matcher call = CALL.matcher(line);
            if (line.equals(NEW_OBJECT)) {
                x = new EntryRows();
            } else if (x == null || !call.matches() || !face.containsKey(call.group(1))) {
                check.same("a call of the class", "no such call");
            } else {
                Method m = face.get(call.group(1));
                check.same(shownAnswer(m, call.group(3)), answer(x, m, call.group(2)));
            }
        }
    }

    void eachCallOfTheFaceIsShown() {
        Set<String> shown = new TreeSet<>();
        for (String line : shownLines()) {
            Matcher call = CALL.matcher(line);
            if (call.matches()) {
                shown.add(call.group(1));
            }
        }
        check.same(new TreeSet<>(face.keySet()).toString(), shown.toString());
    }

    void noObjectIsUsedBeyondItsCalls() {
        int calls = 0;
        for (String line : shownLines()) {
            calls = line.equals(NEW_OBJECT) ? 0 : calls + 1;
            check.same("at most 512", calls <= 512 ? "at most 512" : line);
        }
    }

    /** A block is to be read by itself: it starts with an object of its own. */
    private List<String> shownLines() {
        List<String> shown = new ArrayList<>();
        boolean inside = false;
        boolean first = false;
        for (String line : lines) {
            boolean fence = line.startsWith("```");
            if (inside && !fence) {
                check.same(NEW_OBJECT, first ? line : NEW_OBJECT);
                shown.add(line);
            }
            first = fence && !inside;
            if (first) {
                check.same("```java", line);
            }
            inside = fence ? !inside : inside;
        }
        check.same("closed blocks", inside ? "an open block" : "closed blocks");
        check.same("calls are shown", shown.isEmpty() ? "none" : "calls are shown");
        return shown;
    }

    private static String shownAnswer(Method m, String comment) {
        String text = comment == null ? "" : comment;
        Matcher refusal = REFUSAL.matcher(text);
        if (refusal.matches()) {
            return "throws." + refusal.group(1);
        }
        if (m.getReturnType() == void.class) {
            return "nothing";
        }
        Matcher number = NUMBER.matcher(text);
        return number.matches() ? number.group(1) : "an answer that README.md does not give";
    }

    private static String answer(EntryRows x, Method m, String written) throws IllegalAccessException {
        Object[] given = arguments(m, written);
        if (given == null) {
            return "no such arguments";
        }
        try {
            Object got = m.invoke(x, given);
            return got == null ? "nothing" : got.toString();
        } catch (InvocationTargetException e) {
            return "throws." + e.getCause().getClass().getSimpleName();
        }
    }

    private static Object[] arguments(Method m, String written) {
        String[] parts = written.split(", ");
        Class<?>[] types = m.getParameterTypes();
        if (parts.length != types.length) {
            return null;
        }
        Object[] given = new Object[parts.length];
        for (int i = 0; i < parts.length; i++) {
            boolean truth = parts[i].equals("true") || parts[i].equals("false");
            if (truth != (types[i] == boolean.class) || (!truth && !parts[i].matches("-?\\d+"))) {
                return null;
            }
            given[i] = truth ? (Object) Boolean.valueOf(parts[i]) : (Object) Integer.valueOf(parts[i]);
        }
        return given;
    }

    // The tables.

    void theTableOfCallsIsTheFace() {
        Map<String, String> exceptions = exceptionsOfReasons();
        Set<String> due = new TreeSet<>();
        for (Method m : face.values()) {
            due.add(written(m));
        }
        Set<String> told = new TreeSet<>();
        for (String[] row : table("call")) {
            told.add(row[0].replace("`", "").replaceAll("(int|boolean) \\w+(?=[,)])", "$1")
                    + thrown(row[2], exceptions));
        }
        check.same(due.toString(), told.toString());
    }

    void theReasonsThrowAsTheTableSays() {
        Map<String, String> told = exceptionsOfReasons();
        check.same("[unknown, range, state, no room]", told.keySet().toString());
        EntryRows x = Scenes.small();
        Scenes.team(x, 0, 4, 5, 6, 7);
        check.same("throws." + told.get("unknown"), Check.outcome(() -> x.right(40, true)));
        check.same("throws." + told.get("range"), Check.outcome(() -> x.tick(0)));
        check.same("throws." + told.get("state"), Check.outcome(() -> x.out(0, 1)));
        check.same("throws." + told.get("no room"), Check.outcome(() -> x.member(0, 8, true)));
    }

    void theNumbersHaveTheRangesOfTheTable() {
        Map<String, String> exceptions = exceptionsOfReasons();
        Map<String, IntConsumer> uses = usesOfNumbers();
        Set<String> told = new TreeSet<>();
        for (String[] row : table("number")) {
            check.about("README.md: " + row[0]);
            told.add(row[0]);
            Matcher range = RANGE.matcher(row[1]);
            if (!range.matches() || !uses.containsKey(row[0])) {
                check.same("a range of a number that a call takes", row[0] + ", " + row[1]);
                continue;
            }
            int from = Integer.parseInt(range.group(1));
            int to = Integer.parseInt(range.group(2));
            IntConsumer use = uses.get(row[0]);
            String refused = "throws." + exceptions.get(row[2]);
            check.fine(() -> use.accept(from));
            check.fine(() -> use.accept(to));
            check.same(refused, Check.outcome(() -> use.accept(from - 1)));
            check.same(refused, Check.outcome(() -> use.accept(to + 1)));
        }
        check.same(new TreeSet<>(uses.keySet()).toString(), told.toString());
    }

    /** For each number of the table a call, on an object of its own, that needs no more than it. */
    private static Map<String, IntConsumer> usesOfNumbers() {
        Map<String, IntConsumer> uses = new LinkedHashMap<>();
        uses.put("person", n -> new EntryRows().right(n, true));
        uses.put("team", n -> new EntryRows().member(n, 0, true));
        uses.put("board, when all are made", n -> Scenes.boards(8).close(n));
        uses.put("place, in `heat`", n -> new EntryRows().heat(n, 0));
        uses.put("place, in `enter`", n -> Scenes.small().enter(0, 0, 0, n, false));
        uses.put("task", n -> Scenes.small().enter(0, 0, n, 0, false));
        uses.put("heat a second", n -> new EntryRows().heat(0, n));
        uses.put("least size", n -> new EntryRows().board(n, 1, 0));
        uses.put("longest time, in seconds", n -> new EntryRows().board(1, n, 0));
        uses.put("safety teams needed", n -> new EntryRows().board(1, 1, n));
        uses.put("rest, in seconds", n -> new EntryRows().rest(n));
        uses.put("seconds of a tick", n -> new EntryRows().tick(n));
        uses.put("what, in `person`", n -> new EntryRows().person(0, n));
        uses.put("what, in `boardAt`", n -> Scenes.small().boardAt(0, n));
        uses.put("what, in `count`", n -> new EntryRows().count(n));
        return uses;
    }

    private Map<String, String> exceptionsOfReasons() {
        Map<String, String> exceptions = new LinkedHashMap<>();
        for (String[] row : table("reason")) {
            exceptions.put(row[0], row[1].replace("`", ""));
        }
        return exceptions;
    }

    private static String thrown(String refused, Map<String, String> exceptions) {
        Set<String> names = new TreeSet<>();
        for (String part : refused.split("; ")) {
            String reason = part.substring(0, Math.max(0, part.indexOf(':')));
            names.add(exceptions.getOrDefault(reason, "no such reason: " + part));
        }
        return " " + names;
    }

    private static String written(Method m) {
        List<String> types = new ArrayList<>();
        for (Class<?> type : m.getParameterTypes()) {
            types.add(type.getName());
        }
        Set<String> names = new TreeSet<>();
        for (Class<?> type : m.getExceptionTypes()) {
            names.add(type.getSimpleName());
        }
        return m.getReturnType().getName() + " " + m.getName() + "(" + String.join(", ", types) + ") " + names;
    }

    /** The rows of the table whose first column has this heading. */
    private List<String[]> table(String heading) {
        List<String[]> rows = new ArrayList<>();
        boolean inside = false;
        for (String line : lines) {
            inside = line.startsWith("| " + heading + " |") || (inside && line.startsWith("|"));
            if (inside && line.startsWith("| ") && line.endsWith(" |")) {
                rows.add(line.substring(2, line.length() - 2).split(" \\| "));
            }
        }
        check.same("a table of " + heading, rows.size() > 1 ? "a table of " + heading : "none");
        return rows.isEmpty() ? rows : rows.subList(1, rows.size());
    }

    // The tests.

    void eachFileOfTheTestsIsNamed() {
        String all = String.join("\n", lines);
        String[] files = TESTS.toFile().list();
        check.same("tests", files == null || files.length == 0 ? "no tests" : "tests");
        for (String file : files == null ? new String[0] : files) {
            String name = "`" + file.replace(".java", "") + "`";
            check.same(name, all.contains(name) ? name : "not named");
        }
    }

    void eachTestThatIsNamedIsThere() {
        Matcher name = Pattern.compile("`(\\w+Test)`").matcher(String.join("\n", lines));
        while (name.find()) {
            File file = TESTS.resolve(name.group(1) + ".java").toFile();
            check.same("there", file.isFile() ? "there" : name.group(1) + " is not there");
        }
        check.same("an executable file", new File(".ci/run").canExecute() ? "an executable file" : "none");
    }
}
