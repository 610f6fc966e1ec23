import java.io.IOException;
import java.nio.file.Files;
import java.nio.file.Paths;
import java.util.ArrayList;
import java.util.List;
import java.util.Map;
import java.util.TreeMap;
import java.util.regex.Matcher;
import java.util.regex.Pattern;

/** What LANGUAGE.md leaves out is not in the source: words and signs that can be looked for. */
public final class LanguageTest {
    private static final Due DUE = new Due("LanguageTest");
    private static final String[] BANNED = {"\\bimport\\b", "\\bpackage\\b", "\\bthrow\\b", "\\bthrows\\b", "\\btry\\b",
        "\\bcatch\\b", "\\bsynchronized\\b", "\\bassert\\b", "->", "::", "\\bObject\\b", "\\bThread\\b", "\\bRandom\\b",
        "\\bequals\\b", "\\bhashCode\\b", "\\btoString\\b", "Exact\\b", "\\bjava\\.", "\\bgetClass\\b", "\\bvolatile\\b",
        "\\bSystem\\.(?!arraycopy\\b)", "\\bMath\\.(?!max\\b|min\\b)", "\\bstatic\\s*\\{", "\\bprotected\\b"};

    public static void main(String[] args) throws IOException {
        String path = System.getProperty("ember.source", "src/main/java/EmberDrill.java");
        String source = new String(Files.readAllBytes(Paths.get(path)), "US-ASCII");
        String code = source.replaceAll("(?s)/\\*.*?\\*/", " ").replaceAll("//[^\n]*", " ");
        for (String banned : BANNED) {
            Matcher m = Pattern.compile(banned).matcher(code);
            DUE.holds("no " + banned + " in the source", !m.find());
        }
        for (int i = 0; i < source.length(); i++) DUE.holds("signs are 1 to 127", source.charAt(i) > 0 && source.charAt(i) < 128);
        Map<String, List<String>> bodies = bodies(code);
        DUE.holds("the methods are found: " + bodies.keySet(), bodies.size() > 80 && bodies.containsKey("lessons"));
        methodsAreShort(bodies);
        callsAreNotDeep(bodies);
        onlyWoodsAreMade(bodies);
        DUE.end();
    }

    /** By braces: a body that begins behind a parameter list, under the method's name; alike names in one list. */
    private static Map<String, List<String>> bodies(String code) {
        Map<String, List<String>> bodies = new TreeMap<>();
        Matcher head = Pattern.compile("(?m)^ +[\\w\\[\\] ]*\\b(\\w+)\\([^()]*\\) \\{\\s*$").matcher(code);
        while (head.find()) {
            if (List.of("if", "for", "while", "switch").contains(head.group(1))) continue;
            int depth = 1;
            int end = head.end();
            for (; depth > 0 && end < code.length(); end++) {
                char c = code.charAt(end);
                depth += c == '{' ? 1 : c == '}' ? -1 : 0;
            }
            bodies.computeIfAbsent(head.group(1), name -> new ArrayList<>()).add(code.substring(head.end(), end));
        }
        return bodies;
    }

    private static void methodsAreShort(Map<String, List<String>> bodies) {
        bodies.forEach((name, alike) -> alike.forEach(body ->
            DUE.holds("a method is short: " + name, body.lines().count() <= 60)));
    }

    /** All else is made with the object and used again, so that a run of calls stays small. */
    private static void onlyWoodsAreMade(Map<String, List<String>> bodies) {
        bodies.forEach((name, alike) -> alike.forEach(body ->
            DUE.holds("it makes no object: " + name, name.equals("newWood") || !body.matches("(?s).*\\b(new|clone|copyOf)\\b.*"))));
    }

    /** Calls are told apart by name alone, so that it may count more than there are, never fewer. */
    private static void callsAreNotDeep(Map<String, List<String>> bodies) {
        for (String name : bodies.keySet()) {
            DUE.holds("calls go at most eight deep: " + name, depth(name, bodies, new ArrayList<>()) <= 8);
        }
    }

    private static int depth(String name, Map<String, List<String>> bodies, List<String> open) {
        int most = 0;
        int above = 0;
        open.add(name);
        for (String body : bodies.get(name)) {
            Matcher call = Pattern.compile("\\b(super\\.)?(\\w+)\\(").matcher(body);
            while (call.find()) {
                String called = call.group(2);
                // At worst each body of this name calls the one of the class above.
                if (call.group(1) != null && called.equals(name)) above = bodies.get(name).size() - 1;
                else if (open.contains(called)) DUE.holds("no call comes back to itself: " + open + " " + called, false);
                else if (bodies.containsKey(called)) most = Math.max(most, depth(called, bodies, open));
            }
        }
        open.remove(open.size() - 1);
        return 1 + above + most;
    }
}
