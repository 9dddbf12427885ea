import java.util.ArrayList;
import java.util.Comparator;
import java.util.HashMap;
import java.util.HashSet;
import java.util.List;
import java.util.Map;
import java.util.NoSuchElementException;
import java.util.Set;
import java.util.TreeMap;

/**
 * The document told a second time, in other ways than the class goes: sets and maps for bits,
 * prices found anew at each look, the best plan built from the first of the log on with whole
 * rows compared. Runs of both side by side find slips of either.
 */
final class PlainPlacer {
    private static final class Host {
        int room;
        int rack;
        boolean up = true;
    }

    private static final class Line {
        int a;
        int b;
        int price;
        boolean cut;
    }

    private static final class Copy {
        boolean whole;
        int from;
        int left;
    }

    private static final class Entry {
        int host;
        boolean write;
        int cost;
    }

    private static final class Thing {
        int size;
        int least;
        int version;
        int came;
        final Map<Integer, Copy> copies = new TreeMap<>();
        final Map<Integer, Integer> credit = new TreeMap<>();
        final Set<Integer> pins = new HashSet<>();
        final List<Entry> log = new ArrayList<>();
        final long[] costs = new long[3];

        List<Integer> whole() {
            List<Integer> found = new ArrayList<>();
            for (Map.Entry<Integer, Copy> e : copies.entrySet()) {
                if (e.getValue().whole) {
                    found.add(e.getKey());
                }
            }
            return found;
        }

        int credit(int host) {
            return credit.getOrDefault(host, 0);
        }
    }

    private static final class Row {
        long cost;
        List<Integer> sets = new ArrayList<>();

        boolean isAhead(Row other) {
            if (other == null || cost != other.cost) {
                return other == null || cost < other.cost;
            }
            for (int i = 0; i < sets.size(); i++) {
                int order = Integer.compare(sets.get(i), other.sets.get(i));
                if (order != 0) {
                    return order < 0;
                }
            }
            return false;
        }
    }

    private final List<Host> hosts = new ArrayList<>();
    private final List<Line> lines = new ArrayList<>();
    private final List<Thing> things = new ArrayList<>();
    private final Map<String, Row> rowsKnown = new HashMap<>();
    private int tick;
    private int made;
    private int unanswered;
    private int goneForOthers;
    private int goneByWrites;

    int host(int room, int rack) {
        if (room < 0 || room > 200 || rack < 0 || rack > 3 || hosts.size() == 6) {
            return -1;
        }
        Host h = new Host();
        h.room = room;
        h.rack = rack;
        hosts.add(h);
        return hosts.size() - 1;
    }

    boolean line(int a, int b, int price) {
        if (!isHost(a) || !isHost(b) || a == b || lineOf(a, b) != null || price < 1 || price > 50) {
            return false;
        }
        Line l = new Line();
        l.a = a;
        l.b = b;
        l.price = price;
        lines.add(l);
        return true;
    }

    boolean cut(int a, int b, boolean is) {
        Line l = lineOf(a, b);
        if (l == null) {
            return false;
        }
        l.cut = is;
        return true;
    }

    int thing(int size, int least, int host) {
        if (size < 1 || size > 20 || least < 1 || least > 3 || !isUp(host) || free(host) < size || things.size() == 8) {
            return -1;
        }
        Thing t = new Thing();
        t.size = size;
        t.least = least;
        t.came = host;
        Copy c = new Copy();
        c.whole = true;
        t.copies.put(host, c);
        things.add(t);
        return things.size() - 1;
    }

    boolean pin(int thing, int host, boolean is) {
        if (!isThing(thing) || !isHost(host)) {
            return false;
        }
        if (is) {
            things.get(thing).pins.add(host);
        } else {
            things.get(thing).pins.remove(host);
        }
        return true;
    }

    int price(int a, int b) {
        if (!isHost(a) || !isHost(b)) {
            throw new NoSuchElementException();
        }
        return way(a, b, false);
    }

    int nearest(int host, int thing) {
        return isThing(thing) && isUp(host) ? nearestOf(host, things.get(thing).whole()) : -1;
    }

    int ask(int host, int thing) {
        if (!isThing(thing) || !isUp(host)) {
            return -1;
        }
        Thing t = things.get(thing);
        int by = nearestOf(host, t.whole());
        if (by < 0) {
            unanswered++;
            return -1;
        }
        int price = way(host, by, false);
        t.costs[0] += price;
        enter(t, host, false, price);
        if (by == host) {
            List<Integer> others = t.whole();
            others.remove(Integer.valueOf(host));
            int next = nearestOf(host, others);
            t.credit.put(host, Math.min(5000, t.credit(host) + (next < 0 ? 0 : way(host, next, false))));
            return price;
        }
        t.credit.put(host, Math.min(5000, t.credit(host) + price));
        if (t.credit(host) >= t.size * price && canMake(t, host) && findSpace(t, host)) {
            make(t, host);
        }
        return price;
    }

    int write(int host, int thing) {
        if (!isThing(thing) || !isUp(host)) {
            return -1;
        }
        int reached = reached(host);
        boolean half = reached * 2 == hosts.size() && way(host, 0, false) >= 0;
        if (reached * 2 <= hosts.size() && !half) {
            return -2;
        }
        Thing t = things.get(thing);
        if (nearestOf(host, t.whole()) < 0) {
            return -3;
        }
        t.version++;
        int cost = 0;
        for (int h : t.whole()) {
            int price = way(host, h, false);
            if (price < 0) {
                t.copies.remove(h);
                t.credit.put(h, 0);
                goneByWrites++;
            } else {
                cost += price;
                t.credit.put(h, Math.max(0, t.credit(h) - price));
            }
        }
        for (int h : t.whole()) {
            if (t.credit(h) == 0 && h != host && mayGo(t, h)) {
                t.copies.remove(h);
                goneByWrites++;
            }
        }
        t.costs[1] += cost;
        enter(t, host, true, cost);
        return cost;
    }

    int tick(int n) {
        if (n < 1 || n > 200) {
            return -1;
        }
        int arrived = 0;
        for (int k = 0; k < n; k++) {
            for (int h = 0; h < hosts.size(); h++) {
                for (Thing t : things) {
                    arrived += arrive(t, h);
                }
            }
            for (Thing t : things) {
                mend(t);
            }
            tick++;
        }
        return arrived;
    }

    private int arrive(Thing t, int h) {
        Copy c = t.copies.get(h);
        if (c == null || c.whole) {
            return 0;
        }
        Copy source = t.copies.get(c.from);
        if (source == null || !source.whole || way(h, c.from, false) < 0) {
            t.copies.remove(h);
            return 0;
        }
        c.left--;
        c.whole = c.left == 0;
        return c.whole ? 1 : 0;
    }

    private void mend(Thing t) {
        if (t.copies.size() >= t.least || t.whole().isEmpty()) {
            return;
        }
        Set<Integer> racks = new HashSet<>();
        for (int h : t.copies.keySet()) {
            racks.add(hosts.get(h).rack);
        }
        List<Integer> places = new ArrayList<>();
        for (int h = 0; h < hosts.size(); h++) {
            if (canMake(t, h) && free(h) >= t.size) {
                places.add(h);
            }
        }
        places.sort(Comparator.comparing((Integer h) -> racks.contains(hosts.get(h).rack))
            .thenComparing(h -> way(h, nearestOf(h, t.whole()), false))
            .thenComparing(h -> h));
        if (!places.isEmpty()) {
            make(t, places.get(0));
        }
    }

    int fall(int host) {
        if (!isUp(host)) {
            return -1;
        }
        hosts.get(host).up = false;
        int gone = 0;
        for (Thing t : things) {
            if (t.copies.remove(host) != null) {
                gone++;
            }
            t.credit.remove(host);
        }
        return gone;
    }

    boolean rise(int host) {
        if (!isHost(host) || isUp(host)) {
            return false;
        }
        hosts.get(host).up = true;
        return true;
    }

    int about(int thing, int what) {
        if (!isThing(thing)) {
            return -1;
        }
        Thing t = things.get(thing);
        int bits = 0;
        switch (what) {
            case 0:
                for (int h : t.whole()) {
                    bits += 1 << h;
                }
                return bits;
            case 1:
                for (Map.Entry<Integer, Copy> e : t.copies.entrySet()) {
                    bits += e.getValue().whole ? 0 : 1 << e.getKey();
                }
                return bits;
            case 2:
                for (int h : t.pins) {
                    bits += 1 << h;
                }
                return bits;
            case 3: return t.size;
            case 4: return t.least;
            case 5: return t.version;
            case 6: return t.came;
            case 7: return t.log.size();
            default: return -1;
        }
    }

    int coming(int thing, int host, int what) {
        Copy c = isThing(thing) && isHost(host) ? things.get(thing).copies.get(host) : null;
        if (c == null || c.whole) {
            return -1;
        }
        return what == 0 ? c.from : what == 1 ? c.left : -1;
    }

    int credit(int host, int thing) {
        return isThing(thing) && isHost(host) ? things.get(thing).credit(host) : -1;
    }

    int hostOf(int host, int what) {
        if (!isHost(host)) {
            return -1;
        }
        Host h = hosts.get(host);
        switch (what) {
            case 0: return h.room;
            case 1: return h.rack;
            case 2: return h.up ? 1 : 0;
            case 3: return free(host);
            case 4: return reached(host);
            default: return -1;
        }
    }

    long cost(int thing, int what) {
        if (!isThing(thing) || what < 0 || what > 3) {
            return -1;
        }
        long[] costs = things.get(thing).costs;
        return what == 3 ? costs[0] + costs[1] + costs[2] : costs[what];
    }

    long best(int thing) {
        return isThing(thing) ? bestOf(thing).cost : -1;
    }

    int bestAt(int thing, int i) {
        boolean isThere = isThing(thing) && i >= 0 && i < things.get(thing).log.size();
        return isThere ? bestOf(thing).sets.get(i) : -1;
    }

    /** Rows are kept by all that can change them, as finding one takes long. */
    private Row bestOf(int thing) {
        String key = thing + " " + things.get(thing).log.size() + " " + lines.size() + " " + hosts.size();
        return rowsKnown.computeIfAbsent(key, k -> bestRow(things.get(thing)));
    }

    int log(int thing, int i, int what) {
        if (!isThing(thing) || i < 0 || i >= things.get(thing).log.size()) {
            return -1;
        }
        Entry e = things.get(thing).log.get(i);
        return what == 0 ? e.host : what == 1 ? (e.write ? 1 : 0) : what == 2 ? e.cost : -1;
    }

    int count(int what) {
        int whole = 0;
        int coming = 0;
        for (Thing t : things) {
            whole += t.whole().size();
            coming += t.copies.size() - t.whole().size();
        }
        int[] counts = {hosts.size(), lines.size(), things.size(), tick, whole, coming, made, unanswered,
            goneForOthers, goneByWrites};
        return what >= 0 && what < counts.length ? counts[what] : -1;
    }

    private boolean isHost(int h) {
        return h >= 0 && h < hosts.size();
    }

    private boolean isUp(int h) {
        return isHost(h) && hosts.get(h).up;
    }

    private boolean isThing(int t) {
        return t >= 0 && t < things.size();
    }

    private Line lineOf(int a, int b) {
        for (Line l : lines) {
            if (l.a == a && l.b == b || l.a == b && l.b == a) {
                return l;
            }
        }
        return null;
    }

    /** The price from a to b by going over all lines till nothing gets less; -1: no way. */
    private int way(int a, int b, boolean open) {
        if (!open && (!isUp(a) || !isUp(b))) {
            return -1;
        }
        Map<Integer, Integer> sums = new TreeMap<>();
        sums.put(a, 0);
        boolean changed = true;
        while (changed) {
            changed = false;
            for (Line l : lines) {
                if (open || !l.cut && isUp(l.a) && isUp(l.b)) {
                    changed |= relax(sums, l.a, l.b, l.price);
                    changed |= relax(sums, l.b, l.a, l.price);
                }
            }
        }
        return sums.getOrDefault(b, -1);
    }

    private static boolean relax(Map<Integer, Integer> sums, int from, int to, int price) {
        Integer known = sums.get(from);
        if (known == null || sums.containsKey(to) && sums.get(to) <= known + price) {
            return false;
        }
        sums.put(to, known + price);
        return true;
    }

    private int reached(int host) {
        int n = 0;
        for (int h = 0; h < hosts.size(); h++) {
            n += way(host, h, false) >= 0 ? 1 : 0;
        }
        return n;
    }

    private int nearestOf(int host, List<Integer> among) {
        int found = -1;
        for (int h : among) {
            int price = way(host, h, false);
            if (price >= 0 && (found < 0 || price < way(host, found, false))) {
                found = h;
            }
        }
        return found;
    }

    private int free(int host) {
        int free = hosts.get(host).room;
        for (Thing t : things) {
            free -= t.copies.containsKey(host) ? t.size : 0;
        }
        return free;
    }

    private boolean canMake(Thing t, int host) {
        return isUp(host) && !t.copies.containsKey(host) && nearestOf(host, t.whole()) >= 0
            && t.copies.size() - t.whole().size() < 2;
    }

    private void make(Thing t, int host) {
        Copy c = new Copy();
        c.from = nearestOf(host, t.whole());
        c.left = t.size;
        t.copies.put(host, c);
        t.costs[2] += (long) t.size * way(host, c.from, false);
        made++;
    }

    private boolean mayGo(Thing t, int host) {
        List<Integer> whole = t.whole();
        if (t.pins.contains(host) || whole.size() <= t.least) {
            return false;
        }
        Set<Integer> with = new HashSet<>();
        Set<Integer> without = new HashSet<>();
        for (int h : whole) {
            with.add(hosts.get(h).rack);
            if (h != host) {
                without.add(hosts.get(h).rack);
            }
        }
        return without.size() >= t.least || without.size() == with.size();
    }

    private boolean findSpace(Thing t, int host) {
        List<Thing> going = new ArrayList<>();
        int free = free(host);
        int could = free;
        for (Thing o : things) {
            if (o != t && o.whole().contains(host) && mayGo(o, host) && o.credit(host) < t.credit(host)) {
                going.add(o);
                could += o.size;
            }
        }
        if (free < t.size && could < t.size) {
            return false;
        }
        going.sort(Comparator.comparing((Thing o) -> o.credit(host)).thenComparing(things::indexOf));
        for (Thing o : going) {
            if (free >= t.size) {
                break;
            }
            o.copies.remove(host);
            o.credit.put(host, 0);
            free += o.size;
            goneForOthers++;
        }
        return true;
    }

    private void enter(Thing t, int host, boolean write, int cost) {
        if (t.log.size() == 60) {
            return;
        }
        Entry e = new Entry();
        e.host = host;
        e.write = write;
        e.cost = cost;
        t.log.add(e);
    }

    /** By the set that a plan ends with: the best row so far, of like ones the first. */
    private Row bestRow(Thing t) {
        int n = hosts.size();
        int[][] open = new int[n][n];
        for (int a = 0; a < n; a++) {
            for (int b = 0; b < n; b++) {
                open[a][b] = way(a, b, true);
            }
        }
        Row[] rows = new Row[1 << n];
        rows[1 << t.came] = new Row();
        for (Entry e : t.log) {
            Row[] next = new Row[1 << n];
            for (int s = 1; s < 1 << n; s++) {
                if (rows[s] != null) {
                    extend(t, rows[s], s, e, open, next);
                }
            }
            rows = next;
        }
        Row found = null;
        for (Row r : rows) {
            if (r != null && r.isAhead(found)) {
                found = r;
            }
        }
        return found;
    }

    private static void extend(Thing t, Row row, int from, Entry e, int[][] open, Row[] next) {
        for (int to = 1; to < next.length; to++) {
            long added = moving(t, from, to, open);
            long served = serving(e, to, open);
            if (added >= 0 && served >= 0 && (next[to] == null || row.cost + added + served <= next[to].cost)) {
                Row r = new Row();
                r.cost = row.cost + added + served;
                r.sets.addAll(row.sets);
                r.sets.add(to);
                if (r.isAhead(next[to])) {
                    next[to] = r;
                }
            }
        }
    }

    private static long moving(Thing t, int from, int to, int[][] open) {
        long sum = 0;
        for (int h = 0; h < open.length; h++) {
            if ((to & 1 << h) != 0 && (from & 1 << h) == 0) {
                int least = -1;
                for (int f = 0; f < open.length; f++) {
                    if ((from & 1 << f) != 0 && open[f][h] >= 0 && (least < 0 || open[f][h] < least)) {
                        least = open[f][h];
                    }
                }
                if (least < 0) {
                    return -1;
                }
                sum += (long) t.size * least;
            }
        }
        return sum;
    }

    private static long serving(Entry e, int set, int[][] open) {
        long sum = 0;
        long least = -1;
        for (int h = 0; h < open.length; h++) {
            if ((set & 1 << h) != 0) {
                int price = open[e.host][h];
                if (price < 0 && e.write) {
                    return -1;
                }
                sum += Math.max(0, price);
                if (price >= 0 && (least < 0 || price < least)) {
                    least = price;
                }
            }
        }
        return e.write ? sum : least;
    }
}
