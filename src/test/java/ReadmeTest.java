import java.io.IOException;
import java.nio.file.Files;
import java.nio.file.Path;
import java.util.regex.Matcher;
import java.util.regex.Pattern;

/** What README.md shows is what the class answers. */
public final class ReadmeTest {
    private static final Pattern TEXT = Pattern.compile("for \\(char letter : \"([^\"]*)\"");
    private static final Pattern SHOWN = Pattern.compile("(?m)^x\\.(\\w+\\([^)]*\\)); +// (-?\\d+|[A-Z]+):");
    private static final Pattern CALL = Pattern.compile("(?m)^x\\.");

    public static void main(String[] args) throws IOException {
        String readme = Files.readString(Path.of("README.md"));
        int from = readme.indexOf("```java");
        int to = readme.indexOf("```", from + 3);
        if (from < 0 || to < 0) {
            Check.holds("README.md shows an example", false);
        } else {
            example(readme.substring(from, to));
        }
        Check.end();
    }

    private static void example(String code) {
        SaintHill x = new SaintHill();
        Matcher text = TEXT.matcher(code);
        Check.holds("the example feeds a text", text.find());
        Check.feed(x, text.group(1));
        long shown = 0;
        for (Matcher m = SHOWN.matcher(code); m.find(); shown++) {
            boolean named = Character.isLetter(m.group(2).charAt(0));
            int due = named ? Calls.refusal(m.group(2)) : Integer.parseInt(m.group(2));
            Check.due("README.md: " + m.group(1), Calls.answer(x, m.group(1)), due);
        }
        Check.holds("the example shows calls", shown > 0);
        Check.due("README.md: calls with their answer", shown, CALL.matcher(code).results().count());
    }
}
