import java.io.IOException;
import java.lang.reflect.Constructor;
import java.lang.reflect.Field;
import java.lang.reflect.Method;
import java.lang.reflect.Modifier;
import java.nio.file.Files;
import java.nio.file.Paths;
import java.util.List;
import java.util.Set;
import java.util.TreeSet;
import java.util.stream.Collectors;

/** The public face, and what LANGUAGE.md's rules 1, 2, 5, 11 ask of classes, fields and methods. */
public final class FaceTest {
    private static final Due DUE = new Due("FaceTest");
    /** The methods as the document has them. */
    private static final String FACE = """
        public int wood(int kind, int hard, int wet, int glow);
        public int ofWood(int w, int what);
        public int powder(int w, int press);
        public int take(int spindle, int board);
        public int tell(int what, int v);
        public int told(int what);
        public int drill(int sheet, int lane, int i, int n);
        public int ofItem(int i, int what);
        public int ofDrill(int what);
        public int at(int second, int what);
        public int ember();
        public int comes();
        public int grid(int what);
        public int finish(int what);
        public int go(int spindle);
        public long more(int n, int sheet, int lane, int i, int which);
        public int reading(int second, int what, int v);
        public int back(int k);
        public int fits(int what);
        public int nest(int dry, int loose, int b);
        public int blow(int dry, int loose);
        public int carried(int horn);
        public int lessons(int f, int sheet, int lane, int i, int n, int q);
        public int sheet(int k, int lane, int n);
        public int lose(int k);
        public int put(int k, int i, int v);
        public long cell(int k, int i, int lane);
        public int copy(int k, int i, int other, int j, int n);
        public int say(int w);
        public int stack(int w);
        public int as(int w, int kind);
        public int trace();
        public int fault();
        public int many(int what);
        """;

    public static void main(String[] args) throws IOException {
        constants();
        methods();
        constructor();
        namesOfParameters();
        fields();
        classes();
        DUE.end();
    }

    private static void constants() {
        DUE.is("UNKNOWN", -1, EmberDrill.UNKNOWN);
        DUE.is("OUTSIDE", -2, EmberDrill.OUTSIDE);
        DUE.is("STATE", -3, EmberDrill.STATE);
        DUE.is("FULL", -4, EmberDrill.FULL);
        DUE.is("NONE", -9, EmberDrill.NONE);
        DUE.is("LOST", Long.MIN_VALUE, EmberDrill.LOST);
    }

    private static List<String> face() {
        return FACE.lines().map(line -> line.replace(";", "")).collect(Collectors.toList());
    }

    private static Set<String> publicNames() {
        Set<String> names = new TreeSet<>();
        for (String line : face()) names.add(line.substring(0, line.indexOf('(')).split(" ")[2]);
        return names;
    }

    private static void methods() {
        Set<String> due = new TreeSet<>();
        for (String line : face()) {
            String types = line.replaceAll("(int|long) \\w+(?=[,)])", "$1").replace(", ", ",");
            due.add(types.replaceFirst(" (\\w+)\\(", " EmberDrill.$1("));
        }
        Set<String> got = new TreeSet<>();
        for (Method m : EmberDrill.class.getDeclaredMethods()) {
            if (Modifier.isPublic(m.getModifiers())) {
                got.add(m.toString());
            } else {
                DUE.holds(m + " is private", Modifier.isPrivate(m.getModifiers()));
                DUE.holds(m + " has a name of its own", !publicNames().contains(m.getName()));
            }
            DUE.holds(m + " takes seven at most", m.getParameterCount() <= 7);
        }
        DUE.holds("the methods of the document and no other: " + got + ", not " + due, got.equals(due));
        DUE.is("methods", 34, got.size());
    }

    private static void constructor() {
        DUE.is("public and final", Modifier.PUBLIC | Modifier.FINAL, EmberDrill.class.getModifiers());
        DUE.holds("of no other class", EmberDrill.class.getSuperclass() == Object.class);
        DUE.is("interfaces", 0, EmberDrill.class.getInterfaces().length);
        Constructor<?>[] constructors = EmberDrill.class.getDeclaredConstructors();
        DUE.is("constructors", 1, constructors.length);
        DUE.holds("as told", constructors[0].toString().equals("public EmberDrill()"));
    }

    private static void namesOfParameters() throws IOException {
        String source = Files.readString(Paths.get(System.getProperty("ember.source", "src/main/java/EmberDrill.java")));
        for (String line : face()) DUE.holds("the source has " + line, source.contains("    " + line + " {"));
    }

    private static void fields() {
        Set<String> open = new TreeSet<>();
        for (Field f : EmberDrill.class.getDeclaredFields()) {
            if (!Modifier.isPrivate(f.getModifiers())) open.add(f.toString().replace("EmberDrill.", ""));
        }
        Set<String> due = new TreeSet<>();
        for (String name : List.of("UNKNOWN", "OUTSIDE", "STATE", "FULL", "NONE")) due.add("public static final int " + name);
        due.add("public static final long LOST");
        DUE.holds("the constants of the document and no other: " + open, open.equals(due));
        sizes(EmberDrill.class);
    }

    private static void classes() {
        Class<?>[] inside = EmberDrill.class.getDeclaredClasses();
        DUE.holds("some twelve classes", 1 + inside.length <= 12);
        Set<String> names = publicNames();
        for (Class<?> c : inside) {
            DUE.holds(c + " is static", Modifier.isStatic(c.getModifiers()));
            DUE.holds(c + " is not public", !Modifier.isPublic(c.getModifiers()) && !Modifier.isProtected(c.getModifiers()));
            for (Method m : c.getDeclaredMethods()) {
                DUE.holds(m + " has a name of its own", !names.contains(m.getName()));
                DUE.holds(m + " takes seven at most", m.getParameterCount() <= 7);
            }
            sizes(c);
        }
    }

    private static void sizes(Class<?> c) {
        int fields = 0;
        for (Field f : c.getDeclaredFields()) {
            if (Modifier.isStatic(f.getModifiers())) DUE.holds(f + " is final", Modifier.isFinal(f.getModifiers()));
            else fields++;
        }
        DUE.holds(c + " has some twenty fields", fields <= 20);
    }
}
