import java.util.NoSuchElementException;

/**
 * Places copies of things on a few hosts: the face checks what it is given,
 * Keeper does what happens, Planner finds the best that could have been done.
 */
public final class CopyPlacer {
    public static final int NONE = -1;

    private static final int TOO_FEW_REACHED = -2;
    private static final int NO_COPY_REACHED = -3;

    private static final int MOST_HOSTS = 6;
    private static final int MOST_ROOM = 200;
    private static final int MOST_RACK = 3;
    private static final int MOST_PRICE = 50;
    private static final int MOST_THINGS = 8;
    private static final int MOST_SIZE = 20;
    private static final int MOST_LEAST = 3;
    private static final int MOST_CREDIT = 5000;
    private static final int MOST_COMING = 2;
    private static final int MOST_TICKS = 200;
    private static final int MOST_LOGGED = 60;

    /** All sets of hosts as bits, the empty one too. */
    private static final int SETS = 1 << MOST_HOSTS;
    /** The price of no way at all: far above 250, the dearest way there can be. */
    private static final int FAR = 1000000;

    private final Net net;
    private final Keeper keeper;
    private final Planner planner;
    private int ticksGone;

    public CopyPlacer() {
        net = new Net();
        keeper = new Keeper(net);
        planner = new Planner(net);
    }

    public int host(int room, int rack) {
        if (!isWithin(room, 0, MOST_ROOM) || !isWithin(rack, 0, MOST_RACK) || net.isFull()) {
            return NONE;
        }
        return net.addHost(room, rack);
    }

    public boolean line(int a, int b, int price) {
        if (!net.hasHost(a) || !net.hasHost(b) || a == b) {
            return false;
        }
        if (net.hasLine(a, b) || !isWithin(price, 1, MOST_PRICE)) {
            return false;
        }
        net.addLine(a, b, price);
        return true;
    }

    public boolean cut(int a, int b, boolean is) {
        if (!net.hasHost(a) || !net.hasHost(b) || !net.hasLine(a, b)) {
            return false;
        }
        net.setCut(a, b, is);
        return true;
    }

    public int thing(int size, int least, int host) {
        if (!isWithin(size, 1, MOST_SIZE) || !isWithin(least, 1, MOST_LEAST) || keeper.isFull()) {
            return NONE;
        }
        if (!net.isUp(host) || keeper.freeOn(host) < size) {
            return NONE;
        }
        return keeper.addThing(size, least, host);
    }

    public boolean pin(int thing, int host, boolean is) {
        Thing t = keeper.thingAt(thing);
        if (t == null || !net.hasHost(host)) {
            return false;
        }
        if (is) {
            t.pinned |= 1 << host;
        } else {
            t.pinned &= ~(1 << host);
        }
        return true;
    }

    public int price(int a, int b) throws NoSuchElementException {
        if (!net.hasHost(a) || !net.hasHost(b)) {
            throw new NoSuchElementException("no such host");
        }
        int found = net.priceNow(a, b);
        return found < FAR ? found : NONE;
    }

    public int nearest(int host, int thing) {
        Thing t = keeper.thingAt(thing);
        if (t == null || !net.isUp(host)) {
            return NONE;
        }
        return net.nearestAmong(host, t.whole);
    }

    public int ask(int host, int thing) {
        Thing t = keeper.thingAt(thing);
        if (t == null || !net.isUp(host)) {
            return NONE;
        }
        return keeper.answer(host, t);
    }

    public int write(int host, int thing) {
        Thing t = keeper.thingAt(thing);
        if (t == null || !net.isUp(host)) {
            return NONE;
        }
        return keeper.renew(host, t);
    }

    public int tick(int n) {
        if (!isWithin(n, 1, MOST_TICKS)) {
            return NONE;
        }
        int arrived = 0;
        for (int i = 0; i < n; i++) {
            arrived += keeper.passTick();
        }
        ticksGone += n;
        return arrived;
    }

    public int fall(int host) {
        if (!net.isUp(host)) {
            return NONE;
        }
        net.setUp(host, false);
        return keeper.clearHost(host);
    }

    public boolean rise(int host) {
        if (!net.hasHost(host) || net.isUp(host)) {
            return false;
        }
        net.setUp(host, true);
        return true;
    }

    public int about(int thing, int what) {
        Thing t = keeper.thingAt(thing);
        if (t == null) {
            return NONE;
        }
        switch (what) {
            case 0: return t.whole;
            case 1: return t.arriving;
            case 2: return t.pinned;
            case 3: return t.size;
            case 4: return t.least;
            case 5: return t.version;
            case 6: return t.home;
            case 7: return t.past.length;
            default: return NONE;
        }
    }

    public int coming(int thing, int host, int what) {
        Thing t = keeper.thingAt(thing);
        if (t == null || !net.hasHost(host) || !t.isArriving(host)) {
            return NONE;
        }
        switch (what) {
            case 0: return t.sources[host];
            case 1: return t.ticksLeft[host];
            default: return NONE;
        }
    }

    public int credit(int host, int thing) {
        Thing t = keeper.thingAt(thing);
        if (t == null || !net.hasHost(host)) {
            return NONE;
        }
        return t.credits[host];
    }

    public int hostOf(int host, int what) {
        if (!net.hasHost(host)) {
            return NONE;
        }
        switch (what) {
            case 0: return net.rooms[host];
            case 1: return net.racks[host];
            case 2: return net.isUp(host) ? 1 : 0;
            case 3: return keeper.freeOn(host);
            case 4: return Integer.bitCount(net.reachedNow(host));
            default: return NONE;
        }
    }

    public long cost(int thing, int what) {
        Thing t = keeper.thingAt(thing);
        if (t == null) {
            return NONE;
        }
        switch (what) {
            case 0: return t.askCosts;
            case 1: return t.writeCosts;
            case 2: return t.copyCosts;
            case 3: return t.askCosts + t.writeCosts + t.copyCosts;
            default: return NONE;
        }
    }

    public long best(int thing) {
        Thing t = keeper.thingAt(thing);
        if (t == null) {
            return NONE;
        }
        planner.planFor(t);
        return t.plan.sum;
    }

    public int bestAt(int thing, int i) {
        Thing t = keeper.thingAt(thing);
        if (t == null || !t.past.has(i)) {
            return NONE;
        }
        planner.planFor(t);
        return t.plan.sets[i];
    }

    public int log(int thing, int i, int what) {
        Thing t = keeper.thingAt(thing);
        if (t == null || !t.past.has(i)) {
            return NONE;
        }
        switch (what) {
            case 0: return t.past.hosts[i];
            case 1: return t.past.writes[i] ? 1 : 0;
            case 2: return t.past.costs[i];
            default: return NONE;
        }
    }

    public int count(int what) {
        switch (what) {
            case 0: return net.hostCount;
            case 1: return net.lineCount;
            case 2: return keeper.thingCount;
            case 3: return ticksGone;
            case 4: return keeper.wholeCopies();
            case 5: return keeper.arrivingCopies();
            case 6: return keeper.copiesMade;
            case 7: return keeper.asksUnanswered;
            case 8: return keeper.copiesDisplaced;
            case 9: return keeper.copiesGoneByWrites;
            default: return NONE;
        }
    }

    private static boolean isWithin(int n, int from, int to) {
        return n >= from && n <= to;
    }

    /** Hosts and lines, and what going from one host to another costs. */
    private static final class Net {
        final int[] rooms = new int[MOST_HOSTS];
        final int[] racks = new int[MOST_HOSTS];
        private final boolean[] up = new boolean[MOST_HOSTS];
        /** By pairs of hosts, both ways round; 0 where no line is. */
        private final int[] linePrices = new int[MOST_HOSTS * MOST_HOSTS];
        private final boolean[] lineCut = new boolean[MOST_HOSTS * MOST_HOSTS];
        private final int[] pricesNow = new int[MOST_HOSTS * MOST_HOSTS];
        /** Prices as if no line were cut and all hosts were up. */
        private final int[] pricesOpen = new int[MOST_HOSTS * MOST_HOSTS];
        int hostCount;
        int lineCount;

        boolean isFull() {
            return hostCount >= MOST_HOSTS;
        }

        boolean hasHost(int host) {
            return host >= 0 && host < hostCount;
        }

        boolean isUp(int host) {
            return hasHost(host) && up[host];
        }

        boolean hasLine(int a, int b) {
            return linePrices[a * MOST_HOSTS + b] > 0;
        }

        int priceNow(int a, int b) {
            return pricesNow[a * MOST_HOSTS + b];
        }

        int priceOpen(int a, int b) {
            return pricesOpen[a * MOST_HOSTS + b];
        }

        int addHost(int room, int rack) {
            int host = hostCount;
            rooms[host] = room;
            racks[host] = rack;
            up[host] = true;
            hostCount++;
            findPrices();
            return host;
        }

        void addLine(int a, int b, int price) {
            linePrices[a * MOST_HOSTS + b] = price;
            linePrices[b * MOST_HOSTS + a] = price;
            lineCount++;
            findPrices();
        }

        void setCut(int a, int b, boolean is) {
            lineCut[a * MOST_HOSTS + b] = is;
            lineCut[b * MOST_HOSTS + a] = is;
            findPrices();
        }

        void setUp(int host, boolean is) {
            up[host] = is;
            findPrices();
        }

        private void findPrices() {
            for (int a = 0; a < hostCount; a++) {
                for (int b = 0; b < hostCount; b++) {
                    int at = a * MOST_HOSTS + b;
                    int open = a == b ? 0 : linePrices[at] > 0 ? linePrices[at] : FAR;
                    pricesOpen[at] = open;
                    pricesNow[at] = up[a] && up[b] && !lineCut[at] ? open : FAR;
                }
            }
            goByOthers(pricesOpen);
            goByOthers(pricesNow);
        }

        /** A host that isn't up needs no test here: all its prices are FAR, so no way by it is less. */
        private void goByOthers(int[] prices) {
            for (int by = 0; by < hostCount; by++) {
                for (int a = 0; a < hostCount; a++) {
                    for (int b = 0; b < hostCount; b++) {
                        int sum = prices[a * MOST_HOSTS + by] + prices[by * MOST_HOSTS + b];
                        int at = a * MOST_HOSTS + b;
                        prices[at] = Math.min(prices[at], sum);
                    }
                }
            }
        }

        /** The hosts, as bits, that are reached from one; none if it isn't up. */
        int reachedNow(int host) {
            return reachedBy(pricesNow, host);
        }

        int reachedOpen(int host) {
            return reachedBy(pricesOpen, host);
        }

        private int reachedBy(int[] prices, int host) {
            int reached = 0;
            for (int h = 0; h < hostCount; h++) {
                if (prices[host * MOST_HOSTS + h] < FAR) {
                    reached |= 1 << h;
                }
            }
            return reached;
        }

        /** Of the hosts given as bits the one with the least price from a host, or NONE. */
        int nearestAmong(int host, int hosts) {
            int found = NONE;
            int least = FAR;
            for (int h = 0; h < hostCount; h++) {
                if ((hosts >> h & 1) == 1 && priceNow(host, h) < least) {
                    found = h;
                    least = priceNow(host, h);
                }
            }
            return found;
        }

        /** In which racks, as bits, the hosts given as bits stand. */
        int racksOf(int hosts) {
            int found = 0;
            for (int h = 0; h < hostCount; h++) {
                if ((hosts >> h & 1) == 1) {
                    found |= 1 << racks[h];
                }
            }
            return found;
        }

        boolean isMajority(int hosts) {
            int twice = 2 * Integer.bitCount(hosts);
            return twice > hostCount || twice == hostCount && (hosts & 1) == 1;
        }
    }

    /** A thing with its copies, credits and costs; sets of hosts are bits. */
    private static final class Thing {
        final int size;
        final int least;
        final int home;
        int version;
        int whole;
        int arriving;
        /** Pins outlive the copies: a pin also binds the copy that will be there. */
        int pinned;
        final int[] sources = new int[MOST_HOSTS];
        final int[] ticksLeft = new int[MOST_HOSTS];
        final int[] credits = new int[MOST_HOSTS];
        long askCosts;
        long writeCosts;
        long copyCosts;
        final Past past = new Past();
        final Plan plan = new Plan();

        Thing(int size, int least, int home) {
            this.size = size;
            this.least = least;
            this.home = home;
            whole = 1 << home;
        }

        boolean isWhole(int host) {
            return (whole >> host & 1) == 1;
        }

        boolean isArriving(int host) {
            return (arriving >> host & 1) == 1;
        }

        boolean isPinned(int host) {
            return (pinned >> host & 1) == 1;
        }

        boolean hasCopy(int host) {
            return isWhole(host) || isArriving(host);
        }

        int copyCount() {
            return Integer.bitCount(whole | arriving);
        }

        void growCredit(int host, int by) {
            credits[host] = Math.min(MOST_CREDIT, credits[host] + by);
        }

        void shrinkCredit(int host, int by) {
            credits[host] = Math.max(0, credits[host] - by);
        }

        void dropWhole(int host) {
            whole &= ~(1 << host);
            credits[host] = 0;
        }

        /** Leaves the credit as it is: what was paid for going far still counts for the next try. */
        void stopArriving(int host) {
            arriving &= ~(1 << host);
        }
    }

    /** The log of a thing. */
    private static final class Past {
        final int[] hosts = new int[MOST_LOGGED];
        final boolean[] writes = new boolean[MOST_LOGGED];
        final int[] costs = new int[MOST_LOGGED];
        int length;

        boolean has(int i) {
            return i >= 0 && i < length;
        }

        void add(int host, boolean isWrite, int cost) {
            if (length >= MOST_LOGGED) {
                return;
            }
            hosts[length] = host;
            writes[length] = isWrite;
            costs[length] = cost;
            length++;
        }
    }

    /** The best plan for a thing, and what it was made from: it stands till one of these grows. */
    private static final class Plan {
        final int[] sets = new int[MOST_LOGGED];
        long sum;
        private int length = NONE;
        private int lines = NONE;

        boolean isFor(int logged, int lineCount) {
            return length == logged && lines == lineCount;
        }

        void setFor(int logged, int lineCount) {
            length = logged;
            lines = lineCount;
        }
    }

    /** What happens to the copies: part 2 of the document's terms. */
    private static final class Keeper {
        private final Net net;
        private final Thing[] things = new Thing[MOST_THINGS];
        int thingCount;
        int copiesMade;
        int asksUnanswered;
        int copiesDisplaced;
        int copiesGoneByWrites;

        Keeper(Net net) {
            this.net = net;
        }

        boolean isFull() {
            return thingCount >= MOST_THINGS;
        }

        Thing thingAt(int thing) {
            return thing >= 0 && thing < thingCount ? things[thing] : null;
        }

        int addThing(int size, int least, int host) {
            int number = thingCount;
            things[number] = new Thing(size, least, host);
            thingCount++;
            return number;
        }

        int freeOn(int host) {
            int free = net.rooms[host];
            for (int i = 0; i < thingCount; i++) {
                if (things[i].hasCopy(host)) {
                    free -= things[i].size;
                }
            }
            return free;
        }

        int wholeCopies() {
            int sum = 0;
            for (int i = 0; i < thingCount; i++) {
                sum += Integer.bitCount(things[i].whole);
            }
            return sum;
        }

        int arrivingCopies() {
            int sum = 0;
            for (int i = 0; i < thingCount; i++) {
                sum += Integer.bitCount(things[i].arriving);
            }
            return sum;
        }

        /** An ask from a host that is up. */
        int answer(int host, Thing t) {
            int nearest = net.nearestAmong(host, t.whole);
            if (nearest == NONE) {
                asksUnanswered++;
                return NONE;
            }
            int price = net.priceNow(host, nearest);
            t.askCosts += price;
            t.past.add(host, false, price);
            if (t.isWhole(host)) {
                creditOwnCopy(host, t);
            } else {
                creditGoingFar(host, t, price);
            }
            return price;
        }

        /** A copy of its own saves the host the way to the next one. */
        private void creditOwnCopy(int host, Thing t) {
            int next = net.nearestAmong(host, t.whole & ~(1 << host));
            if (next != NONE) {
                t.growCredit(host, net.priceNow(host, next));
            }
        }

        private void creditGoingFar(int host, Thing t, int price) {
            t.growCredit(host, price);
            if (t.credits[host] < t.size * price || sourceFor(host, t) == NONE) {
                return;
            }
            if (makeSpace(host, t)) {
                makeCopy(host, t);
            }
        }

        /** From where a copy would come to a host; NONE: none can be made there, space or not. */
        private int sourceFor(int host, Thing t) {
            if (!net.isUp(host) || t.hasCopy(host) || Integer.bitCount(t.arriving) >= MOST_COMING) {
                return NONE;
            }
            return net.nearestAmong(host, t.whole);
        }

        private void makeCopy(int host, Thing t) {
            int source = sourceFor(host, t);
            if (source == NONE) {
                return;
            }
            t.sources[host] = source;
            t.ticksLeft[host] = t.size;
            t.arriving |= 1 << host;
            t.copyCosts += t.size * net.priceNow(host, source);
            copiesMade++;
        }

        /** Lets other things' copies go only if that makes space enough. */
        private boolean makeSpace(int host, Thing t) {
            int missing = t.size - freeOn(host);
            if (missing <= 0) {
                return true;
            }
            int giving = thingsGivingWay(host, t.credits[host]);
            if (sizeOf(giving) < missing) {
                return false;
            }
            for (int n = 0; n < thingCount && missing > 0; n++) {
                int i = leastCredited(host, giving);
                if (i != NONE) {
                    missing -= things[i].size;
                    things[i].dropWhole(host);
                    giving &= ~(1 << i);
                    copiesDisplaced++;
                }
            }
            return missing <= 0;
        }

        /** Things, as bits, whose copies on a host may go for one with that credit. */
        private int thingsGivingWay(int host, int credit) {
            int giving = 0;
            for (int i = 0; i < thingCount; i++) {
                Thing t = things[i];
                if (t.isWhole(host) && t.credits[host] < credit && mayGo(host, t)) {
                    giving |= 1 << i;
                }
            }
            return giving;
        }

        private int sizeOf(int thingBits) {
            int sum = 0;
            for (int i = 0; i < thingCount; i++) {
                if ((thingBits >> i & 1) == 1) {
                    sum += things[i].size;
                }
            }
            return sum;
        }

        private int leastCredited(int host, int thingBits) {
            int found = NONE;
            int least = MOST_CREDIT + 1;
            for (int i = 0; i < thingCount; i++) {
                if ((thingBits >> i & 1) == 1 && things[i].credits[host] < least) {
                    found = i;
                    least = things[i].credits[host];
                }
            }
            return found;
        }

        /** Whether a whole copy may go. */
        private boolean mayGo(int host, Thing t) {
            if (t.isPinned(host) || Integer.bitCount(t.whole) <= t.least) {
                return false;
            }
            int racksWithout = Integer.bitCount(net.racksOf(t.whole & ~(1 << host)));
            return racksWithout >= t.least || racksWithout == Integer.bitCount(net.racksOf(t.whole));
        }

        /** A write from a host that is up. */
        int renew(int host, Thing t) {
            int reached = net.reachedNow(host);
            if (!net.isMajority(reached)) {
                return TOO_FEW_REACHED;
            }
            if ((t.whole & reached) == 0) {
                return NO_COPY_REACHED;
            }
            t.version++;
            dropUnreached(t, reached);
            int cost = chargeCopies(host, t);
            dropUsedUp(host, t);
            t.writeCosts += cost;
            t.past.add(host, true, cost);
            return cost;
        }

        /** These would keep the old version, so neither pins nor the least number hold them. */
        private void dropUnreached(Thing t, int reached) {
            for (int h = 0; h < net.hostCount; h++) {
                if (t.isWhole(h) && (reached >> h & 1) == 0) {
                    t.dropWhole(h);
                    copiesGoneByWrites++;
                }
            }
        }

        private int chargeCopies(int host, Thing t) {
            int sum = 0;
            for (int h = 0; h < net.hostCount; h++) {
                if (t.isWhole(h)) {
                    int price = net.priceNow(host, h);
                    sum += price;
                    t.shrinkCredit(h, price);
                }
            }
            return sum;
        }

        private void dropUsedUp(int host, Thing t) {
            for (int h = 0; h < net.hostCount; h++) {
                if (h != host && t.isWhole(h) && t.credits[h] == 0 && mayGo(h, t)) {
                    t.dropWhole(h);
                    copiesGoneByWrites++;
                }
            }
        }

        /** All that one tick does but for its number: how many copies became whole. */
        int passTick() {
            int arrived = 0;
            for (int h = 0; h < net.hostCount; h++) {
                for (int i = 0; i < thingCount; i++) {
                    if (things[i].isArriving(h) && bringNearer(h, things[i])) {
                        arrived++;
                    }
                }
            }
            for (int i = 0; i < thingCount; i++) {
                keepLeast(things[i]);
            }
            return arrived;
        }

        /** Whether the copy became whole with it. */
        private boolean bringNearer(int host, Thing t) {
            int source = t.sources[host];
            if (!t.isWhole(source) || net.priceNow(host, source) >= FAR) {
                t.stopArriving(host);
                return false;
            }
            t.ticksLeft[host]--;
            if (t.ticksLeft[host] > 0) {
                return false;
            }
            t.stopArriving(host);
            t.whole |= 1 << host;
            return true;
        }

        private void keepLeast(Thing t) {
            if (t.copyCount() >= t.least || t.whole == 0) {
                return;
            }
            int host = placeForCopy(t);
            if (host != NONE) {
                makeCopy(host, t);
            }
        }

        private int placeForCopy(Thing t) {
            int used = net.racksOf(t.whole | t.arriving);
            int found = NONE;
            int least = 0;
            for (int h = 0; h < net.hostCount; h++) {
                int source = sourceFor(h, t);
                if (source != NONE && freeOn(h) >= t.size) {
                    int rank = net.priceNow(h, source);
                    // A used rack comes behind every unused one, whatever the price.
                    if ((used >> net.racks[h] & 1) == 1) {
                        rank += FAR;
                    }
                    if (found == NONE || rank < least) {
                        found = h;
                        least = rank;
                    }
                }
            }
            return found;
        }

        /** A host has fallen: how many copies went with it. */
        int clearHost(int host) {
            int gone = 0;
            for (int i = 0; i < thingCount; i++) {
                Thing t = things[i];
                if (t.hasCopy(host)) {
                    gone++;
                }
                t.stopArriving(host);
                t.dropWhole(host);
            }
            return gone;
        }
    }

    /**
     * The best that could have been done, all of a log known ahead. It goes from the last of the
     * log to the first: so for each set the first of the best next sets is known, and following
     * these from the first on gives the first row of all best plans.
     */
    private static final class Planner {
        private final Net net;
        /** Sets that can be had: the not empty ones within reach of where the thing came. */
        private final int[] sets = new int[SETS];
        private int setCount;
        /** By host and set: the least price to one of it, the prices to all of it. */
        private final int[] toOne = new int[MOST_HOSTS * SETS];
        private final int[] toAll = new int[MOST_HOSTS * SETS];
        /** By a set and the next one: what its new hosts cost. */
        private final int[] moves = new int[SETS * SETS];
        /** By place in the log and the set ahead of it: the best set there. */
        private final int[] choices = new int[MOST_LOGGED * SETS];
        /** By the set at a place in the log: the least cost of it and all behind it. */
        private final int[] costsFrom = new int[SETS];
        /** By the set ahead of a place in the log: the least cost of all from there on. */
        private final int[] costsAfter = new int[SETS];

        Planner(Net net) {
            this.net = net;
        }

        void planFor(Thing t) {
            if (t.plan.isFor(t.past.length, net.lineCount)) {
                return;
            }
            listSets(net.reachedOpen(t.home));
            fillPrices();
            fillMoves(t.size);
            chooseSets(t.past);
            followChoices(t);
            t.plan.setFor(t.past.length, net.lineCount);
        }

        private void listSets(int hosts) {
            setCount = 0;
            for (int set = 1; set < SETS; set++) {
                if ((set & ~hosts) == 0) {
                    sets[setCount] = set;
                    setCount++;
                }
            }
        }

        private void fillPrices() {
            for (int h = 0; h < net.hostCount; h++) {
                int row = h * SETS;
                toOne[row] = FAR;
                toAll[row] = 0;
                for (int k = 0; k < setCount; k++) {
                    int set = sets[k];
                    int rest = set & (set - 1);
                    int price = net.priceOpen(h, Integer.numberOfTrailingZeros(set));
                    toOne[row + set] = Math.min(toOne[row + rest], price);
                    toAll[row + set] = toAll[row + rest] + price;
                }
            }
        }

        private void fillMoves(int size) {
            for (int k = 0; k < setCount; k++) {
                int row = sets[k] * SETS;
                moves[row] = 0;
                for (int n = 0; n < setCount; n++) {
                    int next = sets[n];
                    int rest = next & (next - 1);
                    int added = Integer.numberOfTrailingZeros(next);
                    // A host that is in both sets has the price 0 to itself.
                    moves[row + next] = moves[row + rest] + size * toOne[added * SETS + sets[k]];
                }
            }
        }

        private void chooseSets(Past past) {
            for (int k = 0; k < setCount; k++) {
                costsAfter[sets[k]] = 0;
            }
            for (int i = past.length - 1; i >= 0; i--) {
                int[] prices = past.writes[i] ? toAll : toOne;
                int row = past.hosts[i] * SETS;
                for (int k = 0; k < setCount; k++) {
                    costsFrom[sets[k]] = prices[row + sets[k]] + costsAfter[sets[k]];
                }
                for (int k = 0; k < setCount; k++) {
                    chooseNext(i, sets[k]);
                }
            }
        }

        /** Sets are listed by number, so the first of the least cost is the one that is due. */
        private void chooseNext(int i, int set) {
            int row = set * SETS;
            int chosen = set;
            int least = Integer.MAX_VALUE;
            for (int n = 0; n < setCount; n++) {
                int next = sets[n];
                int cost = moves[row + next] + costsFrom[next];
                if (cost < least) {
                    chosen = next;
                    least = cost;
                }
            }
            choices[i * SETS + set] = chosen;
            costsAfter[set] = least;
        }

        private void followChoices(Thing t) {
            int set = 1 << t.home;
            t.plan.sum = costsAfter[set];
            for (int i = 0; i < t.past.length; i++) {
                set = choices[i * SETS + set];
                t.plan.sets[i] = set;
            }
        }
    }
}
