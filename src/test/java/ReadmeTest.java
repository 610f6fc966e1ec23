import java.io.IOException;
import java.lang.reflect.Field;
import java.lang.reflect.InvocationTargetException;
import java.lang.reflect.Method;
import java.nio.file.Files;
import java.nio.file.Path;
import java.nio.file.Paths;
import java.util.ArrayList;
import java.util.Arrays;
import java.util.List;
import java.util.Set;
import java.util.TreeSet;
import java.util.regex.Matcher;
import java.util.regex.Pattern;
import java.util.stream.Stream;

/** What README.md says is so: the run of calls, the helpers, the names of tests, files and classes. */
public final class ReadmeTest {
    private static final Due DUE = new Due("ReadmeTest");
    private static final Pattern CALL = Pattern.compile("x\\.(\\w+)\\(([-\\d, ]*)\\);\\s+// (-?\\d+|[A-Z]+)(: .+)?");
    private static final Pattern WRITE = Pattern.compile("write\\(x, (\\d), (\\d), \"(.*)\"\\);");
    private static final Pattern ROW = Pattern.compile("row\\(x, (\\d), (\\d), ([\\d, ]+)\\);");

    private final Path root;
    private final String page;

    private ReadmeTest(Path root) throws IOException {
        this.root = root;
        page = Files.readString(root.resolve("README.md"));
    }

    public static void main(String[] args) throws IOException, ReflectiveOperationException {
        Path source = Paths.get(System.getProperty("ember.source", "src/main/java/EmberDrill.java")).toAbsolutePath();
        ReadmeTest test = new ReadmeTest(source.getParent().getParent().getParent().getParent());
        List<String> blocks = test.blocks("java");
        DUE.is("README.md: blocks of Java", 2, blocks.size());
        if (blocks.size() == 2) {
            theRunAnswersSo(blocks.get(0));
            test.theHelpersAreDues(blocks.get(1));
        }
        test.testsAreNamed();
        test.filesAreThere();
        test.classesAreNamed();
        test.constantsAreNamed();
        DUE.end();
    }

    private List<String> blocks(String language) {
        List<String> blocks = new ArrayList<>();
        Matcher m = Pattern.compile("```" + language + "\n(.*?)```", Pattern.DOTALL).matcher(page);
        while (m.find()) blocks.add(m.group(1));
        return blocks;
    }

    private static void theRunAnswersSo(String run) throws ReflectiveOperationException {
        EmberDrill x = null;
        int calls = 0;
        for (String line : run.split("\n")) {
            Matcher call = CALL.matcher(line);
            Matcher write = WRITE.matcher(line);
            Matcher row = ROW.matcher(line);
            if (line.isEmpty() || line.startsWith("//")) continue;
            if (line.equals("EmberDrill x = new EmberDrill();")) x = new EmberDrill();
            else if (write.matches()) Due.write(x, number(write, 1), number(write, 2), write.group(3));
            else if (row.matches()) Due.row(x, number(row, 1), number(row, 2), numbers(row.group(3)));
            else if (call.matches()) {
                DUE.is("README.md: " + line, answerOf(call.group(3)), answer(x, call.group(1), numbers(call.group(2))));
                calls++;
            } else DUE.holds("a line of README.md's run is a call with its answer: " + line, false);
        }
        DUE.holds("README.md has a run of calls", calls > 20);
    }

    private static int number(Matcher m, int group) {
        return Integer.parseInt(m.group(group));
    }

    private static int[] numbers(String list) {
        if (list.isEmpty()) return new int[0];
        return Arrays.stream(list.split(", ")).mapToInt(Integer::parseInt).toArray();
    }

    private static long answerOf(String told) throws ReflectiveOperationException {
        if (!Character.isLetter(told.charAt(0))) return Long.parseLong(told);
        return ((Number) EmberDrill.class.getField(told).get(null)).longValue();
    }

    private static long answer(EmberDrill x, String name, int[] given) throws IllegalAccessException {
        for (Method m : EmberDrill.class.getMethods()) {
            if (!m.getName().equals(name) || m.getParameterCount() != given.length) continue;
            try {
                return ((Number) m.invoke(x, Arrays.stream(given).boxed().toArray())).longValue();
            } catch (InvocationTargetException e) {
                DUE.holds("README.md: " + name + " throws " + e.getCause(), false);
            }
        }
        DUE.holds("README.md: there is a call " + name, false);
        return 0;
    }

    private void theHelpersAreDues(String helpers) throws IOException {
        String due = Files.readString(root.resolve("src/test/java/Due.java")).replaceAll("\\s+", " ");
        for (String helper : helpers.split("\n\n")) {
            String flat = helper.trim().replaceAll("\\s+", " ");
            DUE.holds("a helper of README.md is in Due.java: " + flat, due.contains(flat));
        }
    }

    private void testsAreNamed() throws IOException {
        Set<String> there = new TreeSet<>();
        try (Stream<Path> files = Files.list(root.resolve("src/test/java"))) {
            files.map(f -> f.getFileName().toString()).filter(f -> f.endsWith("Test.java"))
                .forEach(f -> there.add(f.substring(0, f.length() - ".java".length())));
        }
        Set<String> named = new TreeSet<>();
        Matcher m = Pattern.compile("\\b\\w+Test\\b").matcher(page);
        while (m.find()) named.add(m.group());
        DUE.holds("README.md names each test: " + there + " but " + named, named.equals(there));
    }

    /** Of what lies in the project; ../shared is beside it. */
    private void filesAreThere() {
        Set<String> files = new TreeSet<>(Arrays.asList(".ci/run", "EDGES.md", "NOTES.md"));
        Matcher m = Pattern.compile("`([\\w./]+\\.(?:java|md))`").matcher(page);
        while (m.find()) files.add(m.group(1));
        for (String file : files) {
            boolean there = Files.exists(root.resolve(file)) || Files.exists(root.resolve("src/test/java").resolve(file));
            DUE.holds("README.md speaks of a file that is there: " + file, there);
            DUE.holds("README.md speaks of " + file, page.contains(file));
        }
    }

    private void classesAreNamed() {
        String made = page.substring(page.indexOf("## How it is made"));
        Set<String> there = new TreeSet<>(Arrays.asList("EmberDrill"));
        for (Class<?> c : EmberDrill.class.getDeclaredClasses()) there.add(c.getSimpleName());
        Set<String> named = new TreeSet<>();
        Matcher m = Pattern.compile("`([A-Z][a-z]\\w*)`").matcher(made);
        while (m.find()) named.add(m.group(1));
        DUE.holds("README.md names each class: " + there + " but " + named, named.equals(there));
    }

    private void constantsAreNamed() throws IllegalAccessException {
        for (Field f : EmberDrill.class.getFields()) {
            boolean isInt = f.getType() == int.class;
            String due = "`" + f.getName() + "`" + (isInt ? " (" + f.getInt(null) + ")" : "");
            DUE.holds("README.md names " + due, page.contains(due));
        }
    }
}
