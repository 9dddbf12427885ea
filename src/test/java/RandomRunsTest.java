import java.util.NoSuchElementException;
import java.util.Random;

/** Random runs of 512 calls, each answer and now and then all of the state beside PlainPlacer's. */
public final class RandomRunsTest {
    private static final int RUNS = 250;
    private static final int CALLS = 512;

    private final Checks checks = new Checks();
    private final Random random;
    private final CopyPlacer x = new CopyPlacer();
    private final PlainPlacer y = new PlainPlacer();
    private final int mostHosts;
    private final int mostSize;
    private final int mostPrice;
    private final int unrest;

    private RandomRunsTest(int seed) {
        random = new Random(seed);
        mostHosts = 1 + random.nextInt(6);
        mostSize = random.nextBoolean() ? 3 : 20;
        mostPrice = random.nextBoolean() ? 3 : 50;
        unrest = random.nextInt(3);
        checks.part("seed " + seed);
    }

    public static void main(String[] args) {
        for (int seed = 0; seed < RUNS; seed++) {
            RandomRunsTest run = new RandomRunsTest(seed);
            run.build();
            for (int i = 0; i < CALLS; i++) {
                run.call();
                if (i % 128 == 127) {
                    run.compareAll();
                }
            }
            if (run.checks.anyWrong()) {
                run.checks.end();
            }
        }
        System.out.println(RUNS + " random runs are as due");
    }

    private void build() {
        for (int h = 0; h < mostHosts; h++) {
            newHost();
        }
        for (int l = 0; l < 2 * mostHosts; l++) {
            newLine();
        }
        for (int t = 0; t < 5; t++) {
            newThing();
        }
    }

    private int pick(int n) {
        return random.nextInt(n);
    }

    /** Mostly a number that is there, now and then one beyond. */
    private int someHost() {
        return pick(30) == 0 ? pick(9) - 2 : pick(mostHosts);
    }

    private int someThing() {
        return pick(30) == 0 ? pick(12) - 2 : pick(Math.max(1, y.count(2)));
    }

    private void call() {
        int kind = pick(100);
        if (kind < 45) {
            int h = someHost();
            int t = someThing();
            checks.due("ask(" + h + ", " + t + ")", x.ask(h, t), y.ask(h, t));
        } else if (kind < 62) {
            int h = someHost();
            int t = someThing();
            checks.due("write(" + h + ", " + t + ")", x.write(h, t), y.write(h, t));
        } else if (kind < 78) {
            int n = pick(20) == 0 ? pick(204) - 1 : 1 + pick(4);
            checks.due("tick(" + n + ")", x.tick(n), y.tick(n));
        } else if (kind < 79 + 6 * unrest) {
            disturb();
        } else {
            grow();
        }
        compareSome();
    }

    private void disturb() {
        int h = someHost();
        switch (pick(4)) {
            case 0:
                int b = someHost();
                boolean is = pick(2) == 0;
                checks.due("cut(" + h + ", " + b + ", " + is + ")", x.cut(h, b, is), y.cut(h, b, is));
                break;
            case 1:
                if (pick(3) == 0) {
                    checks.due("fall(" + h + ")", x.fall(h), y.fall(h));
                }
                break;
            case 2:
                checks.due("rise(" + h + ")", x.rise(h), y.rise(h));
                break;
            default:
                int t = someThing();
                boolean pinned = pick(2) == 0;
                checks.due("pin(" + t + ", " + h + ", " + pinned + ")", x.pin(t, h, pinned), y.pin(t, h, pinned));
        }
    }

    private void grow() {
        switch (pick(6)) {
            case 0:
                newThing();
                break;
            case 1:
                newLine();
                break;
            case 2:
                if (pick(8) == 0) {
                    newHost();
                }
                break;
            default:
                comparePrice(someHost(), someHost());
        }
    }

    private void newHost() {
        int room = pick(10) == 0 ? pick(220) - 10 : 5 + pick(3 * mostSize);
        int rack = pick(20) == 0 ? pick(8) - 2 : pick(4);
        checks.due("host(" + room + ", " + rack + ")", x.host(room, rack), y.host(room, rack));
    }

    private void newLine() {
        int a = someHost();
        int b = someHost();
        int price = pick(20) == 0 ? pick(60) - 4 : 1 + pick(mostPrice);
        checks.due("line(" + a + ", " + b + ", " + price + ")", x.line(a, b, price), y.line(a, b, price));
    }

    private void newThing() {
        int size = pick(20) == 0 ? pick(25) - 2 : 1 + pick(mostSize);
        int least = pick(20) == 0 ? pick(7) - 1 : 1 + pick(3);
        int h = someHost();
        checks.due("thing(" + size + ", " + least + ", " + h + ")", x.thing(size, least, h), y.thing(size, least, h));
    }

    private void compareSome() {
        int h = someHost();
        int t = someThing();
        int what = pick(12) - 1;
        checks.due("nearest(" + h + ", " + t + ")", x.nearest(h, t), y.nearest(h, t));
        checks.due("about(" + t + ", " + what + ")", x.about(t, what), y.about(t, what));
        checks.due("credit(" + h + ", " + t + ")", x.credit(h, t), y.credit(h, t));
        checks.due("count(" + what + ")", x.count(what), y.count(what));
    }

    private void comparePrice(int a, int b) {
        checks.due("price(" + a + ", " + b + ")", priceOfX(a, b), priceOfY(a, b));
    }

    private int priceOfX(int a, int b) {
        try {
            return x.price(a, b);
        } catch (NoSuchElementException e) {
            return -9;
        }
    }

    private int priceOfY(int a, int b) {
        try {
            return y.price(a, b);
        } catch (NoSuchElementException e) {
            return -9;
        }
    }

    private void compareAll() {
        for (int what = -1; what <= 10; what++) {
            checks.due("count(" + what + ")", x.count(what), y.count(what));
        }
        for (int h = -1; h <= 6; h++) {
            for (int what = -1; what <= 5; what++) {
                checks.due("hostOf(" + h + ", " + what + ")", x.hostOf(h, what), y.hostOf(h, what));
            }
            for (int b = -1; b <= 6; b++) {
                comparePrice(h, b);
            }
        }
        for (int t = -1; t <= 8; t++) {
            compareThing(t);
        }
    }

    private void compareThing(int t) {
        for (int what = -1; what <= 8; what++) {
            checks.due("about(" + t + ", " + what + ")", x.about(t, what), y.about(t, what));
            checks.due("cost(" + t + ", " + what + ")", x.cost(t, what), y.cost(t, what));
        }
        for (int h = -1; h <= 6; h++) {
            checks.due("nearest(" + h + ", " + t + ")", x.nearest(h, t), y.nearest(h, t));
            checks.due("credit(" + h + ", " + t + ")", x.credit(h, t), y.credit(h, t));
            for (int what = -1; what <= 2; what++) {
                checks.due("coming(" + t + ", " + h + ", " + what + ")", x.coming(t, h, what), y.coming(t, h, what));
            }
        }
        for (int i = -1; i <= 60; i++) {
            for (int what = -1; what <= 3; what++) {
                checks.due("log(" + t + ", " + i + ", " + what + ")", x.log(t, i, what), y.log(t, i, what));
            }
        }
        checks.due("best(" + t + ")", x.best(t), y.best(t));
        int[] sets = y.bestSets(t);
        for (int i = -1; i <= 60; i++) {
            int want = i >= 0 && i < sets.length ? sets[i] : -1;
            checks.due("bestAt(" + t + ", " + i + ")", x.bestAt(t, i), want);
        }
    }
}
