import java.io.IOException;
import java.nio.file.Files;
import java.nio.file.Paths;
import java.util.regex.Matcher;
import java.util.regex.Pattern;

/** What LANGUAGE.md leaves out is not in the source: words and signs that can be looked for. */
public final class LanguageTest {
    private static final Due DUE = new Due("LanguageTest");
    private static final String[] BANNED = {"\\bimport\\b", "\\bpackage\\b", "\\bthrow\\b", "\\bthrows\\b", "\\btry\\b",
        "\\bcatch\\b", "\\bsynchronized\\b", "\\bassert\\b", "->", "::", "\\bObject\\b", "\\bThread\\b", "\\bRandom\\b",
        "\\bequals\\b", "\\bhashCode\\b", "\\btoString\\b", "Exact\\b", "\\bjava\\.", "\\bgetClass\\b", "\\bvolatile\\b",
        "\\bSystem\\.(?!arraycopy\\b)", "\\bMath\\.(?!max\\b|min\\b)", "\\bstatic\\s*\\{", "\\bprotected\\b"};

    public static void main(String[] args) throws IOException {
        String path = System.getProperty("ember.source", "src/main/java/EmberDrill.java");
        String source = new String(Files.readAllBytes(Paths.get(path)), "US-ASCII");
        String code = source.replaceAll("(?s)/\\*.*?\\*/", " ").replaceAll("//[^\n]*", " ");
        for (String banned : BANNED) {
            Matcher m = Pattern.compile(banned).matcher(code);
            DUE.holds("no " + banned + " in the source", !m.find());
        }
        for (int i = 0; i < source.length(); i++) DUE.holds("signs are 1 to 127", source.charAt(i) > 0 && source.charAt(i) < 128);
        methodsAreShort(code);
        DUE.end();
    }

    /** By braces: a body that begins behind a parameter list. */
    private static void methodsAreShort(String code) {
        String[] lines = code.split("\n");
        for (int start = 0; start < lines.length; start++) {
            if (!lines[start].matches("\\s+[\\w\\[\\] ]+\\([^()]*\\) \\{\\s*") || lines[start].matches(".*\\b(if|for|while|switch|else)\\b.*")) continue;
            int depth = 0;
            int end = start;
            do {
                for (char c : lines[end].toCharArray()) depth += c == '{' ? 1 : c == '}' ? -1 : 0;
                end++;
            } while (depth > 0 && end < lines.length);
            DUE.holds("a method is short: " + lines[start].trim(), end - start <= 60);
        }
    }
}
