import java.io.IOException;
import java.lang.reflect.Method;
import java.nio.file.Files;
import java.nio.file.Path;
import java.util.regex.Matcher;
import java.util.regex.Pattern;

/** README.md holds: its examples answer as it says, its tables have each call. The class's source is the first argument. */
public final class ReadmeTest {
    private static final Pattern EXAMPLE = Pattern.compile("(?s)```java\n(.*?)```");
    private static final Pattern CALL = Pattern.compile("x\\.(\\w+\\([^()]*\\)); +// (-?\\w+)");
    private static final Checks c = new Checks("ReadmeTest");

    public static void main(String[] args) throws IOException {
        Path source = Path.of(args.length > 0 ? args[0] : "src/main/java/HammerTowers.java").toAbsolutePath();
        String page = Files.readString(source.resolve("../../../../README.md").normalize());
        examples(page);
        tables(page);
        c.is("it says how the tests are run", page.contains("\n.ci/run\n") ? 1 : 0, 1);
        c.end();
    }

    private static void examples(String page) {
        Matcher example = EXAMPLE.matcher(page);
        int examples = 0;
        while (example.find()) {
            examples++;
            new Edges(c).promise(1, "README.md, example " + examples, calls(example.group(1)));
        }
        c.is("examples", examples, 2);
    }

    /** Which FINDING it was, is told by the example's next call, finding(): Edges wants its name. */
    private static String calls(String example) {
        StringBuilder calls = new StringBuilder();
        Matcher call = CALL.matcher(example);
        int seen = 0;
        while (call.find()) {
            seen++;
            calls.append(call.group(1)).append(" = ").append(call.group(2)).append('\n');
        }
        c.is("each line but the first is a call with its answer", seen, example.lines().count() - 1);
        return calls.toString().replace("FINDING\nfinding() = 1\n", "NOTHING\nfinding() = 1\n")
            .replace("FINDING\nfinding() = 2\n", "BEYOND\nfinding() = 2\n");
    }

    private static void tables(String page) {
        for (Method method : HammerTowers.class.getMethods()) {
            if (method.getDeclaringClass() != HammerTowers.class) {
                continue;
            }
            int given = method.getParameterCount();
            String numbers = given == 0 ? "" : "\\w+" + ", \\w+".repeat(given - 1);
            Pattern row = Pattern.compile("\n\\| (`\\w+\\(\\)`, )?`" + method.getName() + "\\(" + numbers + "\\)`");
            c.is(method.getName() + "() stands in a table", row.matcher(page).find() ? 1 : 0, 1);
        }
    }
}
