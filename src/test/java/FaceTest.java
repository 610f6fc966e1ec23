import java.lang.reflect.Constructor;
import java.lang.reflect.Field;
import java.lang.reflect.Method;
import java.lang.reflect.Modifier;
import java.util.Arrays;
import java.util.Set;
import java.util.TreeSet;

/** The public face, and what LANGUAGE.md's rules 1, 2, 5, 11 ask of classes, fields and methods. */
public final class FaceTest {
    private static final Due DUE = new Due("FaceTest");
    private static final String FACE = "wood4 ofWood2 powder2 take2 tell2 told1 drill4 ofItem2 ofDrill1 at2 ember0 comes0"
        + " grid1 finish1 go1 more5 reading3 back1 fits1 nest3 blow2 carried1 lessons6 sheet3 lose1 put3 cell3 copy5"
        + " say1 stack1 as2 trace0 fault0 many1";

    public static void main(String[] args) {
        constants();
        methods();
        fields();
        classes();
        DUE.end();
    }

    private static void constants() {
        DUE.is("UNKNOWN", -1, EmberDrill.UNKNOWN);
        DUE.is("OUTSIDE", -2, EmberDrill.OUTSIDE);
        DUE.is("STATE", -3, EmberDrill.STATE);
        DUE.is("FULL", -4, EmberDrill.FULL);
        DUE.is("NONE", -9, EmberDrill.NONE);
        DUE.is("LOST", Long.MIN_VALUE, EmberDrill.LOST);
    }

    private static void methods() {
        Set<String> due = new TreeSet<>(Arrays.asList(FACE.split(" ")));
        Set<String> names = new TreeSet<>();
        for (String d : due) names.add(d.substring(0, d.length() - 1));
        Set<String> got = new TreeSet<>();
        for (Method m : EmberDrill.class.getDeclaredMethods()) {
            boolean isPublic = Modifier.isPublic(m.getModifiers());
            if (isPublic) {
                got.add(m.getName() + m.getParameterCount());
                boolean wide = m.getName().equals("more") || m.getName().equals("cell");
                DUE.holds(m + " answers as told", m.getReturnType() == (wide ? long.class : int.class));
                for (Class<?> p : m.getParameterTypes()) DUE.holds(m + " takes ints", p == int.class);
            } else {
                DUE.holds(m + " is private", Modifier.isPrivate(m.getModifiers()));
                DUE.holds(m + " has a name of its own", !names.contains(m.getName()));
            }
            DUE.holds(m + " takes seven at most", m.getParameterCount() <= 7);
        }
        DUE.holds("the methods of the document and no other: " + got, got.equals(due));
        DUE.holds("public and final", Modifier.isPublic(EmberDrill.class.getModifiers()) && Modifier.isFinal(EmberDrill.class.getModifiers()));
        Constructor<?>[] constructors = EmberDrill.class.getDeclaredConstructors();
        DUE.is("constructors", 1, constructors.length);
        DUE.holds("a public one", Modifier.isPublic(constructors[0].getModifiers()));
    }

    private static void fields() {
        Set<String> open = new TreeSet<>();
        for (Field f : EmberDrill.class.getDeclaredFields()) {
            if (!Modifier.isPrivate(f.getModifiers())) open.add(f.getName());
        }
        Set<String> due = new TreeSet<>(Arrays.asList("UNKNOWN", "OUTSIDE", "STATE", "FULL", "NONE", "LOST"));
        DUE.holds("the constants of the document and no other: " + open, open.equals(due));
        sizes(EmberDrill.class);
    }

    private static void classes() {
        Class<?>[] inside = EmberDrill.class.getDeclaredClasses();
        DUE.holds("some twelve classes", inside.length <= 12);
        Set<String> names = new TreeSet<>();
        for (String d : FACE.split(" ")) names.add(d.substring(0, d.length() - 1));
        for (Class<?> c : inside) {
            DUE.holds(c + " is static", Modifier.isStatic(c.getModifiers()));
            DUE.holds(c + " is not public", !Modifier.isPublic(c.getModifiers()) && !Modifier.isProtected(c.getModifiers()));
            for (Method m : c.getDeclaredMethods()) {
                DUE.holds(m + " has a name of its own", !names.contains(m.getName()));
                DUE.holds(m + " takes seven at most", m.getParameterCount() <= 7);
            }
            sizes(c);
        }
    }

    private static void sizes(Class<?> c) {
        int fields = 0;
        for (Field f : c.getDeclaredFields()) {
            if (Modifier.isStatic(f.getModifiers())) DUE.holds(f + " is final", Modifier.isFinal(f.getModifiers()));
            else fields++;
        }
        DUE.holds(c + " has some twenty fields", fields <= 20);
    }
}
