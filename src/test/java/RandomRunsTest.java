import java.util.ArrayList;
import java.util.List;
import java.util.Random;

/** Random runs of up to 512 calls: each answer, and now and then all of the state, beside PlainPlacer's. */
public final class RandomRunsTest {
    private static final int RUNS = 300;
    private static final int MOVES = 400;
    private static final int MOVES_BETWEEN_LOOKS_AT_ALL = 100;

    private final Checks checks = new Checks();
    private final Random random;
    private final Run run = new Run(new CopyPlacer());
    private final Run plain = new Run(new PlainPlacer());
    private final List<String> moves = new ArrayList<>();
    private final int mostHosts;
    private final int mostThings;
    private final int mostSize;
    private final int mostPrice;
    private final int unrest;

    private RandomRunsTest(int seed) {
        random = new Random(seed);
        mostHosts = 1 + random.nextInt(6);
        mostThings = 1 + random.nextInt(8);
        mostSize = random.nextBoolean() ? 3 : 20;
        mostPrice = random.nextBoolean() ? 3 : 50;
        unrest = random.nextInt(3);
        checks.part("seed " + seed);
    }

    public static void main(String[] args) {
        for (int seed = 0; seed < RUNS; seed++) {
            RandomRunsTest test = new RandomRunsTest(seed);
            test.build();
            while (test.moves.size() < MOVES) {
                test.move();
                if (test.pick(5) == 0 && test.run.callsLeft() > MOVES - test.moves.size()) {
                    test.compare(test.someLook());
                }
                if (test.moves.size() % MOVES_BETWEEN_LOOKS_AT_ALL == 0) {
                    test.compareAll();
                }
            }
            if (test.checks.anyWrong()) {
                test.checks.end();
            }
        }
        System.out.println(RUNS + " random runs are as due");
    }

    private void build() {
        for (int h = 0; h < mostHosts; h++) {
            make(newHost());
        }
        for (int l = 0; l < 2 * mostHosts; l++) {
            make(newLine());
        }
        for (int t = 0; t < mostThings; t++) {
            make(newThing());
        }
    }

    private void make(String call) {
        moves.add(call);
        compare(call);
    }

    private void compare(String call) {
        checks.due(call, run.call(call), plain.call(call));
    }

    private int pick(int n) {
        return random.nextInt(n);
    }

    /** Mostly a number that is there, now and then one beyond. */
    private int someHost() {
        return pick(30) == 0 ? pick(9) - 2 : pick(mostHosts);
    }

    private int someThing() {
        return pick(30) == 0 ? pick(12) - 2 : pick((int) Math.max(1, plain.call("count 2")));
    }

    private void move() {
        int kind = pick(100);
        if (kind < 50) {
            make("ask " + someHost() + " " + someThing());
        } else if (kind < 68) {
            make("write " + someHost() + " " + someThing());
        } else if (kind < 84) {
            make("tick " + (pick(20) == 0 ? pick(204) - 1 : 1 + pick(4)));
        } else if (kind < 86 + 6 * unrest) {
            make(disturbance());
        } else {
            make(growth());
        }
    }

    private String disturbance() {
        switch (pick(9)) {
            case 0:
                return "fall " + someHost();
            case 1:
            case 2:
            case 3:
                return "rise " + someHost();
            case 4:
            case 5:
            case 6:
                return "cut " + someHost() + " " + someHost() + " " + (pick(2) == 0);
            default:
                return "pin " + someThing() + " " + someHost() + " " + (pick(2) == 0);
        }
    }

    private String growth() {
        switch (pick(8)) {
            case 0:
                return newHost();
            case 1:
            case 2:
                return newThing();
            case 3:
                return newLine();
            default:
                return "price " + someHost() + " " + someHost();
        }
    }

    private String newHost() {
        int room = pick(10) == 0 ? pick(220) - 10 : 5 + pick(3 * mostSize);
        int rack = pick(20) == 0 ? pick(8) - 2 : pick(4);
        return "host " + room + " " + rack;
    }

    private String newLine() {
        int price = pick(20) == 0 ? pick(60) - 4 : 1 + pick(mostPrice);
        return "line " + someHost() + " " + someHost() + " " + price;
    }

    private String newThing() {
        int size = pick(20) == 0 ? pick(25) - 2 : 1 + pick(mostSize);
        int least = pick(20) == 0 ? pick(7) - 1 : 1 + pick(3);
        return "thing " + size + " " + least + " " + someHost();
    }

    private String someLook() {
        switch (pick(4)) {
            case 0:
                return "nearest " + someHost() + " " + someThing();
            case 1:
                return "about " + someThing() + " " + (pick(10) - 1);
            case 2:
                return "credit " + someHost() + " " + someThing();
            default:
                return "count " + (pick(12) - 1);
        }
    }

    /** Looks go to new objects led to the same state, each as far as its 512 calls go. */
    private void compareAll() {
        Run another = null;
        for (String look : looks()) {
            if (another == null || another.callsLeft() == 0) {
                another = new Run(new CopyPlacer());
                another.callAll(moves.toArray(new String[0]));
            }
            checks.due(look, another.call(look), plain.call(look));
        }
    }

    private List<String> looks() {
        List<String> looks = new ArrayList<>();
        for (int what = -1; what <= 10; what++) {
            looks.add("count " + what);
        }
        for (int h = -1; h <= plain.call("count 0"); h++) {
            for (int what = -1; what <= 5; what++) {
                looks.add("hostOf " + h + " " + what);
            }
            for (int b = -1; b <= plain.call("count 0"); b++) {
                looks.add("price " + h + " " + b);
            }
        }
        for (int t = -1; t <= plain.call("count 2"); t++) {
            lookAtThing(t, looks);
        }
        return looks;
    }

    private void lookAtThing(int t, List<String> looks) {
        for (int what = -1; what <= 8; what++) {
            looks.add("about " + t + " " + what);
        }
        for (int what = -1; what <= 4; what++) {
            looks.add("cost " + t + " " + what);
        }
        for (int h = -1; h <= plain.call("count 0"); h++) {
            looks.add("nearest " + h + " " + t);
            looks.add("credit " + h + " " + t);
            for (int what = -1; what <= 2; what++) {
                looks.add("coming " + t + " " + h + " " + what);
            }
        }
        looks.add("best " + t);
        for (int i = -1; i <= plain.call("about " + t + " 7"); i++) {
            looks.add("bestAt " + t + " " + i);
            for (int what = -1; what <= 3; what++) {
                looks.add("log " + t + " " + i + " " + what);
            }
        }
    }
}
