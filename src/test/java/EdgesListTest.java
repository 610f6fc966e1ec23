import java.io.IOException;
import java.lang.reflect.Method;
import java.nio.file.Files;
import java.nio.file.Path;
import java.nio.file.Paths;
import java.util.Set;
import java.util.TreeSet;

/** EDGES.md and the tests of the edges tell of one another: none is missing on either side. */
public final class EdgesListTest {
    private static final Due DUE = new Due("EdgesListTest");
    private static final Class<?>[] EDGES = {WoodEdgesTest.class, TextEdgesTest.class, SecondEdgesTest.class,
        BestEdgesTest.class, ReadingEdgesTest.class, NestEdgesTest.class, SheetEdgesTest.class, LongRunTest.class};

    public static void main(String[] args) throws IOException {
        Path source = Paths.get(System.getProperty("ember.source", "src/main/java/EmberDrill.java")).toAbsolutePath();
        Path root = source.getParent().getParent().getParent().getParent();
        Set<String> listed = new TreeSet<>();
        for (String line : Files.readAllLines(root.resolve("EDGES.md"))) {
            String[] parts = line.split("\\|");
            if (parts.length != 3 || !parts[2].contains("Test.")) continue;
            for (String test : parts[2].split(",")) listed.add(test.trim());
        }
        Set<String> there = new TreeSet<>();
        for (Class<?> c : EDGES) addTests(c, there);
        for (String test : there) DUE.holds(test + " is in EDGES.md", listed.contains(test));
        addTests(BestTest.class, there);
        there.add("RefusalsTest.lines");
        for (String test : listed) DUE.holds(test + " of EDGES.md is there", there.contains(test));
        DUE.end();
    }

    private static void addTests(Class<?> c, Set<String> tests) {
        for (Method m : c.getDeclaredMethods()) {
            boolean isTest = m.getParameterCount() == 0 && m.getReturnType() == void.class && !m.isSynthetic();
            if (isTest) tests.add(c.getName() + "." + m.getName());
        }
    }
}
