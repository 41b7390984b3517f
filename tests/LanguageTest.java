import java.io.IOException;
import java.nio.file.Files;
import java.nio.file.Path;
import java.util.Set;
import java.util.regex.Matcher;
import java.util.regex.Pattern;

/** What LANGUAGE.md forbids and the words of the source show; it is run from the project's folder. */
public final class LanguageTest {
    private static final String[] FORBIDDEN = {"\\bthrow\\b", "\\bthrows\\b", "\\btry\\b", "\\bcatch\\b",
        "\\bsynchronized\\b", "\\bassert\\b", "\\bpackage\\b", "\\bimport\\b", "\\bprotected\\b", "->", "::",
        "\\bstatic\\s*\\{", "\\bequals\\b", "\\bhashCode\\b", "\\btoString\\b"};
    private static final Set<String> LIBRARY =
            Set.of("System.arraycopy", "Math.abs", "Math.min", "Integer.bitCount");

    private static final Check check = new Check();

    public static void main(String[] args) throws IOException {
        String source = Files.readString(Path.of("src/main/java/CharmBracelets.java"));
        String code = source.replaceAll("(?s)/\\*.*?\\*/", "").replaceAll("//[^\n]*", "");
        for (String word : FORBIDDEN) {
            check.due(word + " in the source", Pattern.compile(word).matcher(code).results().count(), 0);
        }
        Matcher call = Pattern.compile("\\b([A-Z][a-z]\\w*\\.\\w+)\\s*\\(").matcher(code);
        while (call.find()) {
            check.due(call.group(1) + " is in use", LIBRARY.contains(call.group(1)) ? 1 : 0, 1);
        }
        lengths(code);
        check.finish();
    }

    /** A method begins at an indent of four or eight, behind its modifiers, and ends at the same indent. */
    private static void lengths(String code) {
        Matcher method = Pattern.compile("(?m)^( {4}| {8})(?:public|private)[^\n]*\\) \\{\n((?:.*\n)*?)\\1\\}")
                .matcher(code);
        int methods = 0;
        while (method.find()) {
            methods++;
            check.due("a method is short: " + method.group().split("\n")[0],
                    method.group(2).lines().count() <= 60 ? 1 : 0, 1);
        }
        check.due("methods were found", methods > 40 ? 1 : 0, 1);
    }
}
