import java.io.IOException;
import java.nio.file.Files;
import java.nio.file.Path;
import java.util.HashMap;
import java.util.Map;
import java.util.regex.Matcher;
import java.util.regex.Pattern;

/** README.md tells every call and every term in the document's words, and its example is true. */
public final class ReadmeTest {
    /** A line of the example: perhaps a name for the answer, the call, the answer behind it. */
    private static final Pattern STEP =
        Pattern.compile("(?:int (\\w+) = )?x\\.(\\w+)\\(([^)]*)\\); +// (-?\\d+|true|false)(?:: .*)?");
    private static final Pattern PROMISE = Pattern.compile("## Promise \\d+: [^\n]*\n+`([^`]*)`: ([^\n]*)\n");
    private static final int PROMISES = 22;

    private final Checks checks = new Checks();
    private final String readme;

    private ReadmeTest(String readme) {
        this.readme = readme;
    }

    public static void main(String[] args) throws IOException {
        ReadmeTest test = new ReadmeTest(Files.readString(Path.of("README.md")));
        test.example();
        test.facesCalls();
        Path document = Path.of("../shared/DOC.md");
        if (Files.exists(document)) {
            String text = Files.readString(document);
            test.promises(text);
            test.terms(text);
        }
        test.checks.end();
    }

    private void example() {
        checks.part("example");
        String[] lines = between(readme, "```java\n", "```").split("\n");
        checks.due(lines[0], lines[0].equals("CopyPlacer x = new CopyPlacer();"), true);
        Run run = new Run(new CopyPlacer());
        Map<String, Long> names = new HashMap<>();
        for (int i = 1; i < lines.length; i++) {
            Matcher step = STEP.matcher(lines[i]);
            if (!step.matches()) {
                checks.due(lines[i] + " is a call with its answer", false, true);
                continue;
            }
            StringBuilder told = new StringBuilder(step.group(2));
            for (String given : step.group(3).split(", ")) {
                told.append(' ').append(names.containsKey(given) ? names.get(given).toString() : given);
            }
            long got = run.call(told.toString());
            checks.due(lines[i], got, number(step.group(4)));
            if (step.group(1) != null) {
                names.put(step.group(1), got);
            }
        }
        checks.due("the example has calls", lines.length > 20, true);
    }

    private static long number(String told) {
        return told.equals("true") ? 1 : told.equals("false") ? 0 : Long.parseLong(told);
    }

    private void facesCalls() {
        checks.part("calls");
        for (java.lang.reflect.Method m : CopyPlacer.class.getMethods()) {
            if (m.getDeclaringClass() == CopyPlacer.class) {
                String start = "| `" + m.getReturnType() + " " + m.getName() + "(";
                checks.due(m.getName() + " has a row", readme.contains(start), true);
            }
        }
    }

    private void promises(String document) {
        checks.part("promises");
        Matcher promise = PROMISE.matcher(document);
        int found = 0;
        while (promise.find()) {
            found++;
            String row = "| `" + promise.group(1) + "` | " + promise.group(2) + " |\n";
            checks.due("has the row " + row, readme.contains(row), true);
        }
        checks.due("promises in the document", found, PROMISES);
    }

    /** Each sentence of the terms, wherever its lines break. */
    private void terms(String document) {
        checks.part("terms");
        String told = oneLine(readme);
        String terms = between(document, "## Terms", "The constants:").replace("```text", "").replace("```", "")
            .replaceAll("==== \\d\\.", "");
        int found = 0;
        for (String sentence : oneLine(terms).trim().split("(?<=[.)]) (?=[A-Z(])")) {
            found++;
            checks.due("tells: " + sentence, told.contains(sentence), true);
        }
        checks.due("sentences in the terms are more than 30", found > 30, true);
        checks.due("tells how long an object is used",
            told.contains("An object is used for at most 512 calls after it has been made; what later calls answer is free."), true);
    }

    private static String oneLine(String text) {
        return text.replaceAll("\\s+", " ");
    }

    /** What stands between two marks; empty where one is missing. */
    private static String between(String text, String from, String to) {
        int start = text.indexOf(from);
        int end = start < 0 ? -1 : text.indexOf(to, start + from.length());
        return end < 0 ? "" : text.substring(start + from.length(), end);
    }
}
