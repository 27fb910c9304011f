import java.io.File;
import java.lang.reflect.Method;
import java.lang.reflect.Modifier;
import java.nio.file.Files;
import java.nio.file.Path;
import java.util.ArrayList;
import java.util.HashMap;
import java.util.List;
import java.util.Map;
import java.util.Set;
import java.util.TreeSet;
import java.util.regex.Matcher;
import java.util.regex.Pattern;

/** README.md against the project as it stands: the example's answers, the calls, the findings, the tests that it names. */
public final class ReadmeTest {
    private static final Path README = Path.of("README.md");
    private static final File TESTS = new File("src/test/java");
    private static final Pattern CALL = Pattern.compile("(?:int (\\w+) = )?x\\.(\\w+)\\(([^)]*)\\);\\s*// (-?\\d+): .+");

    private static final Due due = new Due();

    public static void main(String[] args) throws Exception {
        String page = Files.readString(README);
        exampleAnswersSo(between(page, "```java\n", "```"));
        callsAreNamed(between(page, "### Calls and their answers", "###"));
        findingsAreNumbered(between(page, "### Findings", "###"));
        testsAreNamed(between(page, "| test | promises |", "\n\n"));
        filesAreThere(page);
        due.end();
    }

    private static String between(String page, String begin, String end) {
        int from = page.indexOf(begin);
        due.holds("README has " + begin.trim(), from >= 0);
        if (from < 0) {
            return "";
        }
        int to = page.indexOf(end, from + begin.length());
        return page.substring(from + begin.length(), to < 0 ? page.length() : to);
    }

    private static void exampleAnswersSo(String example) throws Exception {
        LacedHouse x = new LacedHouse();
        Map<String, Integer> names = new HashMap<>();
        int calls = 0;
        for (String line : example.split("\n")) {
            if (line.equals("LacedHouse x = new LacedHouse();")) {
                continue;
            }
            Matcher m = CALL.matcher(line);
            due.holds("a call with its answer: " + line, m.matches());
            if (m.matches()) {
                long got = answer(x, m.group(2), m.group(3), names);
                due.is(line, got, Long.parseLong(m.group(4)));
                if (m.group(1) != null) {
                    names.put(m.group(1), (int) got);
                }
                calls++;
            }
        }
        due.holds("the example has calls", calls > 10);
    }

    private static long answer(LacedHouse x, String name, String told, Map<String, Integer> names) throws Exception {
        List<Object> args = new ArrayList<>();
        for (String arg : told.isEmpty() ? new String[0] : told.split(", ")) {
            args.add(names.containsKey(arg) ? names.get(arg) : Integer.decode(arg));
        }
        Class<?>[] ints = new Class<?>[args.size()];
        java.util.Arrays.fill(ints, int.class);
        return ((Number) LacedHouse.class.getMethod(name, ints).invoke(x, args.toArray())).longValue();
    }

    /** Each call has one row of the table, and the table has no other; a bracket points at a call of another row. */
    private static void callsAreNamed(String part) {
        List<String> named = new ArrayList<>();
        for (String line : part.split("\n")) {
            if (line.startsWith("| `")) {
                Matcher m = Pattern.compile("`(\\w+)`").matcher(line.split("\\|")[1].replaceAll("\\(.*\\)", ""));
                while (m.find()) {
                    named.add(m.group(1));
                }
            }
        }
        Set<String> face = new TreeSet<>();
        for (Method method : LacedHouse.class.getDeclaredMethods()) {
            if (Modifier.isPublic(method.getModifiers())) {
                face.add(method.getName());
            }
        }
        due.is("rows of calls", named.size(), face.size());
        due.same("calls", new TreeSet<>(named), face);
    }

    private static void findingsAreNumbered(String part) {
        String[] names = {"BEYOND", "FULL", "KIND", "NONE", "STATE", "MISSING", "SIZE"};
        int[] answers = {Due.BEYOND, Due.FULL, Due.KIND, Due.NONE, Due.STATE, Due.MISSING, Due.SIZE};
        for (int i = 0; i < names.length; i++) {
            Pattern row = Pattern.compile("\\| " + names[i] + ": [^|\n]+ \\| " + answers[i] + " \\| " + i + " \\|");
            due.holds("a row of " + names[i], row.matcher(part).find());
        }
    }

    private static void testsAreNamed(String part) {
        Set<String> named = new TreeSet<>();
        for (String line : part.split("\n")) {
            Matcher m = Pattern.compile("\\b\\w+Test\\b").matcher(line);
            while (m.find()) {
                named.add(m.group());
            }
        }
        Set<String> there = new TreeSet<>();
        for (String file : TESTS.list()) {
            if (file.endsWith("Test.java")) {
                there.add(file.replace(".java", ""));
            }
        }
        due.same("tests", named, there);
    }

    private static void filesAreThere(String page) {
        Matcher m = Pattern.compile("(src/[\\w/]+\\.java|\\.\\./shared/\\w+(\\.md)?|\\.ci/run)").matcher(page);
        int seen = 0;
        while (m.find()) {
            due.holds(m.group() + " is there", new File(m.group()).exists());
            seen++;
        }
        due.holds("files are named", seen > 5);
        due.holds(".ci/run can be run", new File(".ci/run").canExecute());
    }
}
