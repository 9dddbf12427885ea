import java.util.NoSuchElementException;

/** Counts and prints answers that are not as due. */
final class Checks {
    private int wrong;
    private int made;
    private String part = "";

    void part(String name) {
        part = name;
    }

    void due(String call, long got, long want) {
        made++;
        if (got != want) {
            wrong++;
            System.out.println(part + ": " + call + " answered " + got + ", due is " + want);
        }
    }

    void due(String call, boolean got, boolean want) {
        due(call, got ? 1 : 0, want ? 1 : 0);
    }

    void dueNoPrice(CopyPlacer x, int a, int b) {
        boolean thrown = false;
        try {
            x.price(a, b);
        } catch (NoSuchElementException e) {
            thrown = true;
        }
        due("price(" + a + ", " + b + ") throws", thrown, true);
    }

    boolean anyWrong() {
        return wrong != 0;
    }

    void end() {
        System.out.println(wrong == 0 ? made + " answers are as due" : wrong + " of " + made + " answers are not as due");
        if (wrong != 0) {
            System.exit(1);
        }
    }
}
