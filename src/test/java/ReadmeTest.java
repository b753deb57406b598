import java.io.IOException;
import java.nio.charset.StandardCharsets;
import java.nio.file.Files;
import java.nio.file.Path;
import java.util.ArrayList;
import java.util.List;
import java.util.regex.Matcher;
import java.util.regex.Pattern;
import java.util.stream.Stream;

/** What README.md says: its examples, and that it names every call, constant and test. */
public final class ReadmeTest {
    private static final Checks CHECKS = new Checks();
    private static final Pattern BLOCK = Pattern.compile("(?s)```java\n(.*?)```");
    private static final Pattern CALL =
            Pattern.compile("woods\\.(\\w+\\(.*\\)); +// (-?\\d+|[A-Z_]+)\\b.*");
    private static final Pattern TYPED = Pattern.compile("for .*\"(.*)\".*");
    private static final List<String> SILENT = List.of(
            "StormFelling woods = new StormFelling();", "    woods.type(sign);", "}");
    private static final Path TESTS = Path.of("src/test/java");

    public static void main(String[] arguments) throws IOException {
        String text = Files.readString(Path.of("README.md"), StandardCharsets.US_ASCII);
        List<String> files = testFiles();
        CHECKS.test("there are examples", () -> CHECKS.due("blocks", count(text), 2));
        Matcher blocks = BLOCK.matcher(text);
        while (blocks.find()) {
            String[] lines = blocks.group(1).split("\n");
            CHECKS.script("the example with " + lines[1].trim(), rows(lines));
        }
        CHECKS.test("every call is named, acts with a star", () -> calls(text));
        CHECKS.test("every constant is named with its value", () -> constants(text));
        CHECKS.test("every test is named, and no other", () -> tests(text, files));
        CHECKS.end();
    }

    private static int count(String text) {
        return (int) BLOCK.matcher(text).results().count();
    }

    /** The lines of an example as rows of a Script. */
    private static String[] rows(String[] lines) {
        List<String> rows = new ArrayList<>();
        for (String line : lines) {
            Matcher call = CALL.matcher(line);
            Matcher typed = TYPED.matcher(line);
            if (call.matches()) {
                rows.add(call.group(1) + " = " + call.group(2));
            } else if (typed.matches()) {
                rows.add("text " + typed.group(1));
            } else if (!SILENT.contains(line)) {
                rows.add(line);
            }
        }
        return rows.toArray(new String[0]);
    }

    private static void calls(String text) {
        String[] acts = {
            "grow(plot, worth)", "rain(mud)", "endDays(days)", "set(which, value)",
            "go(crew, plot)", "fell(crew)", "hint(row, column)", "takeBack(row)", "storm()",
            "perform()", "restore()"};
        for (String act : acts) {
            isThere(text, "\n| `" + act + "` * | ");
        }
        String[] others = {
            "type(character)", "clearText()", "stopped(what)", "undo()", "keep()",
            "plot(plot, what)", "crew(crew, what)", "row(row, what)", "way(crew, plot)",
            "reason(crew, plot)", "best(crew)", "openRow()", "ifTold(row, column)",
            "count(what)"};
        for (String call : others) {
            isThere(text, "\n| `" + call + "` | ");
        }
    }

    private static void constants(String text) {
        isThere(text, "\n| " + StormFelling.UNKNOWN + " | `UNKNOWN` | ");
        isThere(text, "\n| " + StormFelling.BAD_VALUE + " | `BAD_VALUE` | ");
        isThere(text, "\n| " + StormFelling.FULL + " | `FULL` | ");
        isThere(text, "\n| " + StormFelling.NOT_POSSIBLE + " | `NOT_POSSIBLE` | ");
        isThere(text, "\n| " + StormFelling.NONE + " | `NONE` | ");
    }

    private static void isThere(String text, String part) {
        if (!text.contains(part)) {
            CHECKS.fail("README.md does not say " + part.trim());
        }
    }

    private static List<String> testFiles() throws IOException {
        List<String> names = new ArrayList<>();
        try (Stream<Path> files = Files.list(TESTS)) {
            files.forEach(file -> names.add(file.getFileName().toString().replace(".java", "")));
        }
        return names;
    }

    private static void tests(String text, List<String> files) {
        for (String name : files) {
            if (name.endsWith("Test")) {
                isThere(text, "`" + name + "`");
            }
        }
        Matcher named = Pattern.compile("`(\\w+Test)`").matcher(text);
        while (named.find()) {
            if (!files.contains(named.group(1))) {
                CHECKS.fail("there is no test " + named.group(1));
            }
        }
    }
}
