import java.io.IOException;
import java.nio.file.Files;
import java.nio.file.Path;

/** Runs on new objects, each under the words of the document that it tests. */
final class Teller {
    static final long TRUE = 1;
    static final long FALSE = 0;
    static final long NONE = -1;
    static final int LEAST_INT = Integer.MIN_VALUE;
    static final int MOST_INT = Integer.MAX_VALUE;

    private final Checks checks = new Checks();
    private final String document;
    private Run run;

    Teller() {
        try {
            Path path = Path.of("../shared/DOC.md");
            document = Files.exists(path) ? oneLine(Files.readString(path)) : null;
        } catch (IOException e) {
            throw new IllegalStateException(e);
        }
    }

    private static String oneLine(String text) {
        return text.replaceAll("\\s+", " ");
    }

    /** A new object, to test these words; they must stand in the document. */
    void words(String quoted) {
        checks.part(quoted);
        checks.due("stands in the document", document == null || document.contains(oneLine(quoted)), true);
        fresh();
    }

    /** Another new object for the same words. */
    void fresh() {
        run = new Run(new CopyPlacer());
    }

    void go(String... calls) {
        run.callAll(calls);
    }

    void times(int n, String call) {
        for (int i = 0; i < n; i++) {
            run.call(call);
        }
    }

    void due(String call, long want) {
        checks.due(call, run.call(call), want);
    }

    /** The same call is due to answer these, one after the other. */
    void dues(String call, long... wants) {
        for (long want : wants) {
            due(call, want);
        }
    }

    void dueThrown(String call) {
        due(call, Run.THROWN);
    }

    /** Hosts with room enough, each in the rack given, in a chain of lines of one price. */
    void chain(int price, int... racks) {
        for (int h = 0; h < racks.length; h++) {
            due("host 200 " + racks[h], h);
            if (h > 0) {
                due("line " + (h - 1) + " " + h + " " + price, TRUE);
            }
        }
    }

    /** Hosts with room enough in one rack, host 0 joined to each other one by a line of one price. */
    void star(int price, int hosts) {
        for (int h = 0; h < hosts; h++) {
            due("host 200 0", h);
            if (h > 0) {
                due("line 0 " + h + " " + price, TRUE);
            }
        }
    }

    void end() {
        checks.end();
    }
}
