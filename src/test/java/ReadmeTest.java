import java.nio.file.Files;
import java.nio.file.Path;
import java.util.ArrayList;
import java.util.List;
import java.util.regex.Matcher;
import java.util.regex.Pattern;

/** That what README.md shows is so: its example, its calls, its lands and its refusals. */
public final class ReadmeTest {
    private static final Path DOCUMENT = Path.of("../shared/DOC.md");
    private static final Path README = Path.of("README.md");

    public static void main(String[] args) throws Exception {
        String readme = Files.readString(README);
        example(partOf(readme, "Use"));
        Check.due("the calls told", rowsOf(partOf(readme, "Calls")), callsOf(Files.readString(DOCUMENT)));
        statements(partOf(readme, "How a land is told in letters"));
        answers("How a land is told in letters", partOf(readme, "How a land is told in letters"));
        answers("How refusals are told", partOf(readme, "How refusals are told"));
        Check.holds("it says how to run the tests", partOf(readme, "Tests").contains("    .ci/run\n"));
        Check.end();
    }

    private static String partOf(String readme, String title) {
        int start = readme.indexOf("\n## " + title + "\n");
        Check.holds("README.md has " + title, start >= 0);
        int end = readme.indexOf("\n## ", start + 1);
        return readme.substring(Math.max(0, start), end < 0 ? readme.length() : end);
    }

    /** Each call that has a number behind it answers it. */
    private static void example(String part) {
        Run x = new Run().letters(first("String land = \"([^\"]*)\";", part));
        Matcher call = Pattern.compile("(?m)^x\\.(\\w+\\(.*\\)); +// (-?\\d+)\\b").matcher(part);
        int calls = 0;
        while (call.find()) {
            x.due(call.group(1), Long.parseLong(call.group(2)));
            calls++;
        }
        Check.due("calls of the example", calls, (int) part.lines().filter(line -> line.startsWith("x.")).count());
    }

    private static String first(String pattern, String text) {
        Matcher found = Pattern.compile(pattern).matcher(text);
        Check.holds(pattern + " stands there", found.find());
        return found.group(1);
    }

    private static List<String> rowsOf(String part) {
        List<String> rows = new ArrayList<>();
        Matcher row = Pattern.compile("(?m)^\\| `([^`]*)` \\|").matcher(part);
        while (row.find()) {
            rows.add(row.group(1));
        }
        return rows;
    }

    private static List<String> callsOf(String document) {
        List<String> calls = new ArrayList<>();
        Matcher told = Pattern.compile("(?m)^    public (?:int|long) (\\w+\\(.*\\));$").matcher(document);
        while (told.find()) {
            calls.add(told.group(1).replaceAll("\\bint ", ""));
        }
        return calls;
    }

    private static void statements(String part) {
        Matcher statement = Pattern.compile("`([tydbcl][^`]*;)`").matcher(part.substring(0, part.indexOf("To a new object")));
        int statements = 0;
        while (statement.find()) {
            Run.of("tw100;tw100;").land(statement.group(1), 1);
            statements++;
        }
        Check.holds("each statement has an example", statements >= 6);
    }

    /** Each row is a text or a call of a new object, and its answer. */
    private static void answers(String title, String part) {
        Matcher row = Pattern.compile("(?m)^\\| `([^`]*)` \\| (-?\\d+) \\|$").matcher(part);
        int rows = 0;
        while (row.find()) {
            String told = row.group(1);
            long want = Long.parseLong(row.group(2));
            if (told.endsWith(")")) {
                new Run().due(told, want);
            } else {
                new Run().land(told, want);
            }
            rows++;
        }
        Check.holds(title + " has examples", rows >= 5);
    }
}
