import java.io.IOException;
import java.nio.file.Files;
import java.nio.file.Path;
import java.util.ArrayList;
import java.util.List;
import java.util.Map;
import java.util.regex.Matcher;
import java.util.regex.Pattern;
import java.util.stream.Stream;

/** README.md: its examples answer as it says, and it names all calls, constants and tests. */
public final class ReadmeTest {
    private static final String BEGIN = "CoughBids auction = new CoughBids();";
    private static final Pattern EXAMPLE = Pattern.compile(
        "auction\\.(\\w+)\\(([^)]*)\\); *// (-?\\d+|[A-Z_]+)\\b.*");
    private static final Map<String, Integer> ERRORS = Map.of(
        "INVALID_ARGUMENT", CoughBids.INVALID_ARGUMENT, "NOT_POSSIBLE", CoughBids.NOT_POSSIBLE,
        "LIMIT_REACHED", CoughBids.LIMIT_REACHED, "NOT_FOUND", CoughBids.NOT_FOUND);

    private ReadmeTest() {
    }

    private static void holds(String what, boolean holds) {
        Due.due(what, holds ? 1 : 0, 1);
    }

    private static int number(String written) {
        boolean sign = written.startsWith("'");
        return sign ? written.charAt(1) : Integer.parseInt(written);
    }

    private static int[] arguments(String written) {
        return written.isEmpty() ? new int[0]
            : Stream.of(written.split(", ")).mapToInt(ReadmeTest::number).toArray();
    }

    private static void example(CoughBids auction, String line) {
        Matcher told = EXAMPLE.matcher(line);
        holds("an example of the form that can be made: " + line, told.matches());
        if (!told.matches()) {
            return;
        }
        int call = Calls.NAMES.indexOf(told.group(1));
        int[] of = arguments(told.group(2));
        holds("a call of the face: " + line, call >= 0 && of.length == Calls.argumentsOf(call));
        String answer = told.group(3);
        int want = ERRORS.containsKey(answer) ? ERRORS.get(answer) : Integer.parseInt(answer);
        Due.due(line, Calls.make(auction, call, of), want);
    }

    private static int examples(List<String> lines) {
        int examples = 0;
        CoughBids auction = null;
        boolean within = false;
        for (String line : lines) {
            if (line.startsWith("```")) {
                within = line.equals("```java");
            } else if (within && line.equals(BEGIN)) {
                auction = new CoughBids();
            } else if (within) {
                example(auction, line);
                examples++;
            }
        }
        return examples;
    }

    private static void namesAll(String page) throws IOException {
        for (String call : Calls.NAMES) {
            holds("a row of the table for " + call, page.contains("| `" + call + "("));
        }
        for (String constant : ERRORS.keySet()) {
            holds("a row of the table for " + constant, page.contains("| `" + constant + "` |"));
        }
        List<String> tests = new ArrayList<>();
        try (Stream<Path> files = Files.list(Path.of("src/test/java"))) {
            files.forEach(file -> tests.add(file.getFileName().toString().replace(".java", "")));
        }
        for (String test : tests) {
            holds("the test or helper " + test, page.contains("`" + test + "`"));
        }
        holds("how the tests are run", page.contains("    .ci/run\n"));
    }

    public static void main(String[] args) throws IOException {
        Path readme = Path.of("README.md");
        holds("there are examples", examples(Files.readAllLines(readme)) > 40);
        namesAll(Files.readString(readme));
        Due.end("ReadmeTest");
    }
}
