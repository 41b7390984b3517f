import java.io.IOException;
import java.lang.reflect.Method;
import java.lang.reflect.Modifier;
import java.nio.file.Files;
import java.nio.file.Path;
import java.util.regex.Matcher;
import java.util.regex.Pattern;

/** The examples of README.md answer what stands behind them; it is run from the project's folder. */
public final class ReadmeTest {
    private static final Pattern EXAMPLES = Pattern.compile("(?s)```java\n(.*?)```");
    private static final Pattern CALL = Pattern.compile("x\\.(\\w+)\\(([^)]*)\\); *// (-?\\d+|[A-Z_]+)(:.*)?");
    private static final Pattern TEXT = Pattern.compile("for .*\"(.*)\"\\.toCharArray\\(\\)\\) \\{ x\\.append\\(code\\); \\}");

    private static final Check check = new Check();

    public static void main(String[] args) throws IOException, ReflectiveOperationException {
        String page = Files.readString(Path.of("README.md"));
        Matcher examples = EXAMPLES.matcher(page);
        int found = 0;
        while (examples.find()) {
            found++;
            follow(examples.group(1));
        }
        check.due("examples were found", found > 1 ? 1 : 0, 1);
        for (Method method : CharmBracelets.class.getDeclaredMethods()) {
            if (Modifier.isPublic(method.getModifiers())) {
                check.due("README.md names " + method.getName(), page.contains("`" + method.getName() + "`") ? 1 : 0, 1);
            }
        }
        check.finish();
    }

    private static void follow(String example) throws ReflectiveOperationException {
        Words x = null;
        for (String line : example.split("\n")) {
            Matcher call = CALL.matcher(line);
            Matcher text = TEXT.matcher(line);
            if (line.equals("CharmBracelets x = new CharmBracelets();")) {
                x = new Words();
            } else if (text.matches()) {
                x.call("text " + text.group(1));
            } else if (call.matches()) {
                String words = call.group(1) + " " + call.group(2).replace(",", "");
                check.due(line, x.call(words.trim()), answer(call.group(3)));
            } else {
                check.same("a line of an example", line, "a call with its answer");
            }
        }
    }

    private static long answer(String word) throws ReflectiveOperationException {
        return Character.isUpperCase(word.charAt(0)) ? CharmBracelets.class.getField(word).getInt(null) : Long.parseLong(word);
    }
}
