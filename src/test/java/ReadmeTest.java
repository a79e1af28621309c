import java.io.IOException;
import java.nio.file.Files;
import java.nio.file.Path;
import java.util.regex.Matcher;
import java.util.regex.Pattern;

/** The answers that README.md tells in its examples, call by call. */
public final class ReadmeTest {
    private static final Pattern NEW = Pattern.compile("TrueMaps x = new TrueMaps\\(\\);");
    private static final Pattern CALL = Pattern.compile("x\\.(\\w+\\([-0-9, ]*\\)); +// (-?[0-9]+): .*");
    private static final Pattern TOLD = Pattern.compile("tell\\(x, \"([^\"]*)\"\\); +// (-?[0-9]+): .*");
    private static final Due due = new Due("ReadmeTest");

    private static Story story = new Story();
    private static int answers;

    private ReadmeTest() {
    }

    public static void main(String[] args) throws IOException {
        boolean inside = false;
        for (String line : Files.readAllLines(Path.of("README.md"))) {
            if (line.startsWith("```")) {
                inside = line.equals("```java");
            } else if (inside) {
                read(line);
            }
        }
        due.holds("the examples are found: " + answers, answers >= 20);
        due.end();
    }

    private static void read(String line) {
        Matcher call = CALL.matcher(line);
        Matcher told = TOLD.matcher(line);
        if (NEW.matcher(line).matches()) {
            story = new Story();
        } else if (call.matches()) {
            answered(line, story.then(call.group(1)), call.group(2));
        } else if (told.matches()) {
            answered(line, story.fed(told.group(1)).then("map()"), told.group(2));
        } else {
            // Else a line with a slip of the pen would pass as one that is not asked.
            due.holds("an answer is told: " + line, !line.startsWith("x.") && !line.startsWith("tell("));
        }
    }

    private static void answered(String line, Story after, String answer) {
        answers++;
        due.same(line, after.answer(), Long.parseLong(answer));
        story = after;
    }
}
