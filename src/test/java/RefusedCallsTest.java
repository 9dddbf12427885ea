import java.util.ArrayList;
import java.util.List;
import java.util.Set;
import java.util.TreeSet;

/**
 * "A refused call changes nothing.": in several states every call with every mix of numbers near
 * and far out. What is refused, and what only looks, must leave all that calls show as it was, and
 * all that they show after a run of further calls, beside an object on which it was not called.
 */
public final class RefusedCallsTest {
    private static final String LEAST = String.valueOf(Integer.MIN_VALUE);
    private static final String MOST = String.valueOf(Integer.MAX_VALUE);
    private static final String[] HOSTS = {LEAST, "-1", "0", "1", "2", "3", "5", "6", MOST};
    private static final String[] THINGS = {LEAST, "-1", "0", "1", "2", "7", "8", MOST};
    private static final String[] WHATS = {LEAST, "-1", "0", "1", "2", "3", "4", "5", "7", "8", "9", "10", MOST};
    private static final String[] PLACES = {LEAST, "-1", "0", "1", "59", "60", MOST};
    private static final String[] TRUTHS = {"true", "false"};

    /** Names of calls that may change something, each with what its arguments go through. */
    private static final Object[][] CHANGING = {
        {"host", new String[] {LEAST, "-1", "0", "200", "201", MOST}, new String[] {LEAST, "-1", "0", "3", "4", MOST}},
        {"line", HOSTS, HOSTS, new String[] {LEAST, "0", "1", "50", "51", MOST}},
        {"cut", HOSTS, HOSTS, TRUTHS},
        {"thing", new String[] {LEAST, "0", "1", "20", "21", MOST}, new String[] {LEAST, "0", "1", "3", "4", MOST}, HOSTS},
        {"pin", THINGS, HOSTS, TRUTHS},
        {"ask", HOSTS, THINGS},
        {"write", HOSTS, THINGS},
        {"tick", new String[] {LEAST, "-1", "0", "1", "200", "201", MOST}},
        {"fall", HOSTS},
        {"rise", HOSTS}};

    private static final Object[][] LOOKING = {
        {"price", HOSTS, HOSTS},
        {"nearest", HOSTS, THINGS},
        {"about", THINGS, WHATS},
        {"coming", THINGS, HOSTS, new String[] {"-1", "0", "1", "2"}},
        {"credit", HOSTS, THINGS},
        {"hostOf", HOSTS, WHATS},
        {"cost", THINGS, WHATS},
        {"best", THINGS},
        {"bestAt", THINGS, PLACES},
        {"log", THINGS, PLACES, new String[] {"-1", "0", "2", "3"}},
        {"count", WHATS}};

    /** A state by the calls that lead to it, and calls that then show what a look can't. */
    private static final String[][][] STATES = {
        {{"nothing"}, {}, {"host 9 1", "host 9 2", "line 0 1 3", "thing 2 1 0", "ask 1 0", "tick 1"}},
        {{"hosts alone"}, {"host 20 1", "host 0 3", "host 200 0", "fall 2"},
            {"line 0 1 4", "rise 2", "line 0 2 1", "line 1 2 2", "thing 20 2 0", "tick 1", "host 7 2"}},
        {{"copies coming, credits, pins, a line cut"},
            {"host 100 0", "host 20 1", "host 8 2", "host 50 1", "line 0 1 5", "line 1 2 3", "line 0 2 9", "line 2 3 4",
                "thing 4 1 0", "thing 3 2 1", "thing 6 3 3", "pin 0 2 true", "pin 1 3 true", "ask 2 0", "ask 2 0",
                "tick 2", "ask 3 1", "ask 0 2", "write 1 1", "write 0 0", "ask 2 0", "ask 2 0", "cut 0 2 true"},
            {"ask 2 0", "tick 1", "write 0 0", "ask 1 1", "write 3 1", "cut 0 1 true", "ask 0 1", "tick 1", "tick 2",
                "cut 0 1 false", "cut 0 2 false", "ask 3 0", "tick 7", "fall 3", "write 1 2", "rise 3", "tick 9",
                "line 0 3 1", "thing 5 1 1", "write 0 0", "write 0 0", "host 9 3", "line 4 0 2", "ask 4 3", "tick 4"}},
        {{"two halves, one without a copy"},
            {"host 50 0", "host 50 1", "host 50 2", "host 50 3", "line 0 1 2", "line 1 2 2", "line 2 3 2",
                "thing 2 1 3", "thing 1 2 0", "thing 2 2 2", "tick 3", "ask 1 0", "cut 1 2 true", "ask 2 1"},
            {"write 3 0", "tick 1", "cut 1 2 false", "write 3 0", "ask 0 0", "tick 2", "write 0 1", "ask 3 1"}},
        {{"hosts fallen, a thing without copies"},
            {"host 50 0", "host 50 1", "host 50 2", "line 0 1 2", "line 1 2 2", "line 0 2 3",
                "thing 2 1 0", "thing 4 2 1", "thing 2 3 2", "tick 1", "ask 1 0", "ask 2 1", "pin 2 0 true", "pin 0 0 true",
                "pin 1 1 true", "fall 0", "fall 1"},
            {"tick 1", "rise 0", "tick 1", "ask 0 2", "rise 1", "tick 2", "write 1 2", "ask 2 1", "write 0 1", "tick 5"}},
        {{"six hosts, all their lines, eight things"}, full(),
            {"tick 1", "ask 0 7", "write 5 3", "fall 5", "write 0 3", "tick 2", "ask 1 4", "cut 0 1 true", "ask 0 1",
                "write 0 0", "rise 5", "tick 20", "ask 5 0"}},
        {{"a host crowded, others would have to go"},
            {"host 200 0", "host 6 1", "line 0 1 1", "thing 3 1 0", "thing 3 1 0", "ask 1 0", "ask 1 0", "ask 1 0",
                "ask 1 1", "ask 1 1", "ask 1 1", "tick 3", "thing 7 1 0", "ask 1 2", "ask 1 2", "ask 1 2", "ask 1 2",
                "ask 1 2", "ask 1 2", "ask 1 2", "thing 4 1 0", "ask 1 3", "ask 1 3", "ask 1 3"},
            {"ask 1 3", "tick 1", "ask 1 2", "write 0 0", "tick 3", "write 0 3", "ask 1 1"}},
        {{"a log full"}, fullLog(), {"ask 1 0", "write 2 0", "ask 1 1", "tick 1", "line 0 2 1", "write 0 0"}}};

    /** Every refusal that the document knows; the states above must lead to each. */
    private static final String[] REFUSALS = {"host -1", "line 0", "cut 0", "thing -1", "pin 0", "ask -1", "write -1",
        "write -2", "write -3", "tick -1", "fall -1", "rise 0"};

    private final Checks checks = new Checks();
    private final Set<String> seen = new TreeSet<>();

    public static void main(String[] args) {
        RefusedCallsTest test = new RefusedCallsTest();
        for (String[][] state : STATES) {
            test.sweep(state[0][0], state[1], state[2]);
        }
        test.checks.due("refusals seen: " + test.seen, test.seen.equals(Set.of(REFUSALS)), true);
        test.checks.end();
    }

    private static String[] full() {
        List<String> calls = new ArrayList<>();
        for (int h = 0; h < 6; h++) {
            calls.add("host " + 20 * h + " " + h % 4);
        }
        for (int a = 0; a < 6; a++) {
            for (int b = 0; b < a; b++) {
                calls.add("line " + a + " " + b + " " + (5 + a + 2 * b));
            }
        }
        for (int i = 0; i < 8; i++) {
            calls.add("thing " + (1 + i) + " " + (1 + i % 3) + " " + (1 + i % 5));
        }
        for (int i = 0; i < 8; i++) {
            calls.add("ask " + i % 6 + " " + i);
        }
        calls.add("tick 2");
        calls.add("write 1 2");
        return calls.toArray(new String[0]);
    }

    private static String[] fullLog() {
        List<String> calls = new ArrayList<>(List.of("host 50 0", "host 50 0", "host 50 1", "line 0 1 3", "line 1 2 2",
            "thing 5 1 0", "thing 2 1 1"));
        for (int i = 0; i < 12; i++) {
            calls.addAll(List.of("ask 1 0", "ask 2 0", "ask 0 0", "write 1 0", "tick 1", "ask 2 0"));
        }
        return calls.toArray(new String[0]);
    }

    private void sweep(String name, String[] state, String[] then) {
        List<String> shown = shownAfter(state, null, new String[0]);
        List<String> shownThen = shownAfter(state, null, then);
        for (Object[] kind : CHANGING) {
            for (String call : mixes(kind)) {
                checks.part(name + ", " + call);
                long answer = answerOf(state, call);
                if (isRefusal(kind[0].toString(), answer)) {
                    seen.add(kind[0] + " " + answer);
                    boolean counts = countsAsUnanswered(state, call);
                    dueSame("shows", shownAfter(state, call, new String[0]), shown, counts);
                    dueSame("shows in the end", shownAfter(state, call, then), shownThen, counts);
                }
            }
        }
        for (Object[] kind : LOOKING) {
            for (String call : mixes(kind)) {
                checks.part(name + ", " + call);
                answerOf(state, call);
                dueSame("shows", shownAfter(state, call, new String[0]), shown, false);
            }
        }
    }

    /** All mixes of the arguments of a call. */
    private static List<String> mixes(Object[] kind) {
        List<String> calls = new ArrayList<>(List.of(kind[0].toString()));
        for (int i = 1; i < kind.length; i++) {
            List<String> longer = new ArrayList<>();
            for (String call : calls) {
                for (String given : (String[]) kind[i]) {
                    longer.add(call + " " + given);
                }
            }
            calls = longer;
        }
        return calls;
    }

    /** The answer, which must be the one that the document's second telling gives. */
    private long answerOf(String[] state, String call) {
        Run run = runTo(state, new CopyPlacer());
        Run plain = runTo(state, new PlainPlacer());
        long answer = run.call(call);
        checks.due("answer", answer, plain.call(call));
        return answer;
    }

    private static Run runTo(String[] state, Object placer) {
        Run run = new Run(placer);
        run.callAll(state);
        return run;
    }

    private static boolean isRefusal(String name, long answer) {
        boolean answersTruth = name.equals("line") || name.equals("cut") || name.equals("pin") || name.equals("rise");
        return answersTruth ? answer == 0 : answer < 0;
    }

    /** The one call that answers NONE and is counted: an ask of a thing, from a host that is up, that nothing answers. */
    private static boolean countsAsUnanswered(String[] state, String call) {
        if (!call.startsWith("ask ")) {
            return false;
        }
        String[] words = call.split(" ");
        Run plain = runTo(state, new PlainPlacer());
        return plain.call("hostOf " + words[1] + " 2") == 1 && plain.call("about " + words[2] + " 3") > 0;
    }

    private void dueSame(String what, List<String> got, List<String> want, boolean countsAsUnanswered) {
        checks.due(what + " as much", got.size(), want.size());
        for (int i = 0; i < Math.min(got.size(), want.size()); i++) {
            if (!got.get(i).equals(want.get(i))) {
                boolean isDue = countsAsUnanswered && isOneMore(got.get(i), want.get(i));
                checks.due(what + " " + got.get(i) + " for " + want.get(i), isDue, true);
            } else {
                boolean isMissing = countsAsUnanswered && got.get(i).startsWith("count 7 ");
                checks.due(what + " no more of count 7", isMissing, false);
            }
        }
    }

    private static boolean isOneMore(String got, String want) {
        String count = "count 7 = ";
        return got.startsWith(count) && want.startsWith(count)
            && Integer.parseInt(got.substring(count.length())) == Integer.parseInt(want.substring(count.length())) + 1;
    }

    /** All that calls show after the state, perhaps one call more, and some calls behind it. */
    private static List<String> shownAfter(String[] state, String call, String[] then) {
        List<String> calls = new ArrayList<>(List.of(state));
        if (call != null) {
            calls.add(call);
        }
        List<String> shown = new ArrayList<>();
        Run run = new Run(new CopyPlacer());
        run.callAll(calls.toArray(new String[0]));
        for (String further : then) {
            calls.add(further);
            shown.add(further + " = " + run.call(further));
        }
        List<String> looks = looksAt((int) run.call("count 0"), (int) run.call("count 2"));
        for (String look : looks) {
            // Looks beyond the 512 calls of an object go to another one in the same state.
            if (run.callsLeft() == 0) {
                run = new Run(new CopyPlacer());
                run.callAll(calls.toArray(new String[0]));
            }
            shown.add(look + " = " + run.call(look));
        }
        return shown;
    }

    private static List<String> looksAt(int hosts, int things) {
        List<String> looks = new ArrayList<>();
        for (int what = 0; what <= 9; what++) {
            looks.add("count " + what);
        }
        for (int h = 0; h <= hosts; h++) {
            for (int what = 0; what <= 4; what++) {
                looks.add("hostOf " + h + " " + what);
            }
            for (int b = 0; b < hosts; b++) {
                looks.add("price " + h + " " + b);
            }
        }
        for (int i = 0; i <= things; i++) {
            lookAtThing(i, hosts, looks);
        }
        return looks;
    }

    private static void lookAtThing(int thing, int hosts, List<String> looks) {
        for (int what = 0; what <= 7; what++) {
            looks.add("about " + thing + " " + what);
        }
        for (int h = 0; h < hosts; h++) {
            looks.add("credit " + h + " " + thing);
            looks.add("nearest " + h + " " + thing);
            looks.add("coming " + thing + " " + h + " 0");
            looks.add("coming " + thing + " " + h + " 1");
        }
        for (int what = 0; what <= 2; what++) {
            looks.add("cost " + thing + " " + what);
        }
        looks.add("best " + thing);
        for (int i : new int[] {0, 1, 2, 3, 4, 5, 58, 59}) {
            looks.add("bestAt " + thing + " " + i);
            for (int what = 0; what <= 2; what++) {
                looks.add("log " + thing + " " + i + " " + what);
            }
        }
    }
}
