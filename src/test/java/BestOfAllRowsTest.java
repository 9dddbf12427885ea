import java.util.Arrays;
import java.util.Random;

/**
 * BEST and its SETS beside all rows there are: short logs on few hosts, every row of SETS looked at
 * from the first on, so that nothing is left out and the first of the least sum is the one that is due.
 */
public final class BestOfAllRowsTest {
    private static final int RUNS = 5000;
    private static final long NO_WAY = 1000000000L;
    /** How long a log may be, by the number of hosts, for all its rows to be looked at. */
    private static final int[] LOGGED = {0, 8, 6, 4, 3};

    private final Checks checks = new Checks();
    private final Random random;
    private final CopyPlacer x = new CopyPlacer();
    private final long[][] prices;
    private final int hosts;
    private int size;
    private int home;

    /** The log, read once: an object is asked no more than 512 times. */
    private int[] askers;
    private boolean[] writes;
    private int[] row;
    private int[] firstRow;
    private long leastSum;

    private BestOfAllRowsTest(int seed) {
        random = new Random(seed);
        hosts = 1 + random.nextInt(LOGGED.length - 1);
        prices = new long[hosts][hosts];
        checks.part("seed " + seed);
    }

    public static void main(String[] args) {
        int longest = 0;
        int moved = 0;
        for (int seed = 0; seed < RUNS; seed++) {
            BestOfAllRowsTest test = new BestOfAllRowsTest(seed);
            test.build();
            test.happen();
            test.compare();
            if (test.checks.anyWrong()) {
                test.checks.end();
            }
            longest = Math.max(longest, test.row.length);
            moved += test.leavesHome() ? 1 : 0;
        }
        if (longest < 4 || moved < RUNS / 10) {
            System.out.println("the runs try too little: " + longest + " in a log, " + moved + " plans leave home");
            System.exit(1);
        }
        System.out.println(RUNS + " best plans are the first of all rows, " + moved + " of them leave home");
    }

    private void build() {
        for (int h = 0; h < hosts; h++) {
            checks.due("host", x.host(50, random.nextInt(4)), h);
        }
        int mostPrice = random.nextBoolean() ? 3 : 50;
        for (int a = 0; a < hosts; a++) {
            for (int b = 0; b < a; b++) {
                prices[a][b] = NO_WAY;
                if (random.nextInt(4) != 0) {
                    prices[a][b] = 1 + random.nextInt(mostPrice);
                    checks.due("line", x.line(a, b, (int) prices[a][b]), true);
                }
                prices[b][a] = prices[a][b];
            }
        }
        for (int by = 0; by < hosts; by++) {
            for (int a = 0; a < hosts; a++) {
                for (int b = 0; b < hosts; b++) {
                    prices[a][b] = Math.min(prices[a][b], prices[a][by] + prices[by][b]);
                }
            }
        }
        size = 1 + random.nextInt(random.nextInt(4) != 0 ? 2 : 20);
        home = random.nextInt(hosts);
        checks.due("thing", x.thing(size, 1 + random.nextInt(3), home), 0);
    }

    /** Asks and writes with cuts, falls and ticks between them, none of which BEST looks at. */
    private void happen() {
        int writesOfTen = random.nextInt(6);
        int mostLogged = random.nextInt(10) == 0 ? 0 : LOGGED[hosts];
        for (int n = 0; n < 40 && x.about(0, 7) < mostLogged; n++) {
            int host = random.nextInt(hosts);
            switch (random.nextInt(8)) {
                case 0:
                    x.tick(1 + random.nextInt(5));
                    break;
                case 1:
                    x.cut(random.nextInt(hosts), host, random.nextBoolean());
                    break;
                case 2:
                    if (random.nextBoolean() || x.about(0, 0) == 1 << host) {
                        x.rise(host);
                    } else {
                        x.fall(host);
                    }
                    break;
                default:
                    if (random.nextInt(10) < writesOfTen) {
                        x.write(host, 0);
                    } else {
                        x.ask(host, 0);
                    }
            }
        }
    }

    private void compare() {
        readLog(x.about(0, 7));
        leastSum = Long.MAX_VALUE;
        tryRows(0, 1 << home, 0);
        checks.due("best", x.best(0), leastSum);
        for (int i = 0; i < row.length; i++) {
            checks.due("bestAt " + i + " of " + Arrays.toString(firstRow), x.bestAt(0, i), firstRow[i]);
        }
    }

    private void readLog(int length) {
        row = new int[length];
        askers = new int[length];
        writes = new boolean[length];
        for (int i = 0; i < length; i++) {
            askers[i] = x.log(0, i, 0);
            writes[i] = x.log(0, i, 1) == 1;
        }
    }

    private void tryRows(int i, int former, long sum) {
        if (sum >= NO_WAY) {
            return;
        }
        if (i == row.length) {
            if (sum < leastSum) {
                leastSum = sum;
                firstRow = row.clone();
            }
            return;
        }
        for (int set = 1; set < 1 << hosts; set++) {
            row[i] = set;
            tryRows(i + 1, set, sum + newHosts(former, set) + served(i, set));
        }
    }

    private long newHosts(int former, int set) {
        long sum = 0;
        for (int h = 0; h < hosts; h++) {
            if (isIn(h, set) && !isIn(h, former)) {
                sum += size * least(h, former);
            }
        }
        return sum;
    }

    private long served(int i, int set) {
        if (!writes[i]) {
            return least(askers[i], set);
        }
        long sum = 0;
        for (int h = 0; h < hosts; h++) {
            sum += isIn(h, set) ? prices[askers[i]][h] : 0;
        }
        return sum;
    }

    private long least(int host, int set) {
        long least = NO_WAY;
        for (int h = 0; h < hosts; h++) {
            if (isIn(h, set)) {
                least = Math.min(least, prices[host][h]);
            }
        }
        return least;
    }

    private static boolean isIn(int host, int set) {
        return (set & 1 << host) != 0;
    }

    private boolean leavesHome() {
        for (int set : firstRow) {
            if (set != 1 << home) {
                return true;
            }
        }
        return false;
    }
}
