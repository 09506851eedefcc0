import java.nio.file.Files;
import java.nio.file.Path;
import java.util.Arrays;
import java.util.regex.Matcher;
import java.util.regex.Pattern;

/** The calls that README.md shows answer as it says there, one after the other on one object. */
final class ReadmeTests {
    private static final Path PAGE = Path.of("README.md");
    private static final Pattern SHOWN =
            Pattern.compile("(?m)^bench\\.(\\w+)\\(([^)]*)\\);\\s*// (-?\\d+)?(.*)$");

    /** make and keep answer 0, which the page has no need to say. */
    private static final int UNSAID = 0;

    private final Checks checks;

    ReadmeTests(Checks checks) {
        this.checks = checks;
    }

    void run() throws Exception {
        OrderPatterns bench = new OrderPatterns();
        Matcher shown = SHOWN.matcher(Files.readString(PAGE));
        int calls = 0;
        while (shown.find()) {
            String name = shown.group(1);
            int[] arguments = Arrays.stream(shown.group(2).split(", "))
                    .mapToInt(word -> word.equals("true") ? 1 : Integer.parseInt(word)).toArray();
            boolean unsaid = name.equals("make") || name.equals("keep");
            long want = unsaid ? UNSAID : Long.parseLong(shown.group(3));
            checks.due("README.md: " + name + "(" + shown.group(2) + ")",
                    Calls.answerOf(bench, name, arguments), want);
            calls++;
        }
        checks.yes("README.md shows calls: " + calls, calls > 20);
    }
}
