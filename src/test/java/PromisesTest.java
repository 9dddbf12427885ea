/** Each promise of the document by runs whose answers were worked out by hand from its words. */
public final class PromisesTest {
    private static final int BIG = Integer.MAX_VALUE;
    private static final int SMALL = Integer.MIN_VALUE;

    private final Checks checks = new Checks();

    public static void main(String[] args) {
        PromisesTest test = new PromisesTest();
        test.newObject();
        test.hosts();
        test.lines();
        test.cuts();
        test.things();
        test.pins();
        test.prices();
        test.nearest();
        test.askAnswers();
        test.askCreditsOwnCopy();
        test.askMakesCopy();
        test.askCreditHasATop();
        test.askLetsNearTheTopGo();
        test.askWithTwoComing();
        test.askLetsOthersGo();
        test.askLetsNoMoreGoThanNeeded();
        test.askLetsNoneGoIfNotEnough();
        test.askLetsOnlyLesserCreditGo();
        test.mayGoLooksAtRacks();
        test.writeNeedsMajority();
        test.writeAmongSixHosts();
        test.writeNeedsACopy();
        test.writeLosesUnreached();
        test.writeKeepsLeastInOneRack();
        test.writeUsesUpCredit();
        test.writeLetsGoByHosts();
        test.writeKeepsRacks();
        test.ticks();
        test.tickLosesComing();
        test.tickGoesByHosts();
        test.tickKeepsLeast();
        test.tickChoosesPlace();
        test.falls();
        test.rises();
        test.about();
        test.coming();
        test.credits();
        test.hostOf();
        test.costs();
        test.best();
        test.bestFollowsTheLog();
        test.bestGoesByNumbers();
        test.bestOverOpenLines();
        test.bestAtBeforeBest();
        test.bestWithLaterLines();
        test.logEndsAtSixty();
        test.log();
        test.counts();
        test.checks.end();
    }

    private void due(String call, long got, long want) {
        checks.due(call, got, want);
    }

    private void due(String call, boolean got, boolean want) {
        checks.due(call, got, want);
    }

    /** Hosts with room enough, each in the rack given, in a chain of lines of one price. */
    private static CopyPlacer chain(int price, int... racks) {
        CopyPlacer x = new CopyPlacer();
        for (int h = 0; h < racks.length; h++) {
            x.host(200, racks[h]);
            if (h > 0) {
                x.line(h - 1, h, price);
            }
        }
        return x;
    }

    private static void ask(CopyPlacer x, int host, int thing, int times) {
        for (int i = 0; i < times; i++) {
            x.ask(host, thing);
        }
    }

    private void newObject() {
        checks.part("1 new");
        CopyPlacer x = new CopyPlacer();
        for (int what = 0; what <= 9; what++) {
            due("count(" + what + ")", x.count(what), 0);
        }
        due("about(0, 0)", x.about(0, 0), -1);
        due("hostOf(0, 0)", x.hostOf(0, 0), -1);
        due("tick(1)", x.tick(1), 0);
        due("thing(1, 1, 0)", x.thing(1, 1, 0), -1);
        checks.dueNoPrice(x, 0, 0);
        due("NONE", CopyPlacer.NONE, -1);
    }

    private void hosts() {
        checks.part("2 host");
        CopyPlacer x = new CopyPlacer();
        due("room -1", x.host(-1, 0), -1);
        due("room 201", x.host(201, 0), -1);
        due("rack -1", x.host(0, -1), -1);
        due("rack 4", x.host(0, 4), -1);
        due("room least", x.host(SMALL, 0), -1);
        due("rack most", x.host(0, BIG), -1);
        due("count(0)", x.count(0), 0);
        due("host(0, 0)", x.host(0, 0), 0);
        due("host(200, 3)", x.host(200, 3), 1);
        for (int h = 2; h < 6; h++) {
            due("host " + h, x.host(10 * h, 1), h);
        }
        due("a seventh", x.host(10, 1), -1);
        due("count(0)", x.count(0), 6);
        due("room of 1", x.hostOf(1, 0), 200);
        due("rack of 1", x.hostOf(1, 1), 3);
        due("up", x.hostOf(5, 2), 1);
    }

    private void lines() {
        checks.part("3 line");
        CopyPlacer x = new CopyPlacer();
        x.host(1, 0);
        x.host(1, 0);
        x.host(1, 0);
        due("price 0", x.line(0, 1, 0), false);
        due("price 51", x.line(0, 1, 51), false);
        due("price least", x.line(0, 1, SMALL), false);
        due("to itself", x.line(1, 1, 5), false);
        due("host -1", x.line(-1, 1, 5), false);
        due("host 3", x.line(0, 3, 5), false);
        due("hosts far out", x.line(BIG, SMALL, 5), false);
        due("count(1)", x.count(1), 0);
        due("price(0, 1)", x.price(0, 1), -1);
        due("line(1, 0, 1)", x.line(1, 0, 1), true);
        due("line(1, 2, 50)", x.line(1, 2, 50), true);
        due("again", x.line(1, 0, 2), false);
        due("again, turned", x.line(0, 1, 2), false);
        due("count(1)", x.count(1), 2);
        due("price(0, 1)", x.price(0, 1), 1);
        due("price(0, 2)", x.price(0, 2), 51);
        due("cut", x.cut(0, 1, true), true);
        due("again though cut", x.line(0, 1, 7), false);
    }

    private void cuts() {
        checks.part("4 cut");
        CopyPlacer x = chain(4, 0, 1, 2);
        due("no line", x.cut(0, 2, true), false);
        due("itself", x.cut(1, 1, true), false);
        due("host -1", x.cut(-1, 0, true), false);
        due("host 3", x.cut(2, 3, true), false);
        due("far out", x.cut(BIG, SMALL, false), false);
        due("cut, turned", x.cut(2, 1, true), true);
        due("price(1, 2)", x.price(1, 2), -1);
        due("price(0, 1)", x.price(0, 1), 4);
        due("cut again", x.cut(1, 2, true), true);
        due("count(1)", x.count(1), 2);
        due("not cut", x.cut(1, 2, false), true);
        due("price(0, 2)", x.price(0, 2), 8);
    }

    private void things() {
        checks.part("5 thing");
        CopyPlacer x = chain(4, 0, 1);
        x.host(10, 0);
        due("size 0", x.thing(0, 1, 0), -1);
        due("size 21", x.thing(21, 1, 0), -1);
        due("least 0", x.thing(1, 0, 0), -1);
        due("least 4", x.thing(1, 4, 0), -1);
        due("host -1", x.thing(1, 1, -1), -1);
        due("host 3", x.thing(1, 1, 3), -1);
        due("far out", x.thing(BIG, SMALL, BIG), -1);
        due("no room", x.thing(11, 1, 2), -1);
        x.fall(1);
        due("not up", x.thing(1, 1, 1), -1);
        due("count(2)", x.count(2), 0);
        due("just fits", x.thing(10, 3, 2), 0);
        due("free", x.hostOf(2, 3), 0);
        due("full", x.thing(1, 1, 2), -1);
        due("thing(20, 1, 0)", x.thing(20, 1, 0), 1);
        for (int t = 2; t < 8; t++) {
            due("thing " + t, x.thing(1, 1, 0), t);
        }
        due("a ninth", x.thing(1, 1, 0), -1);
        due("whole", x.about(1, 0), 1);
        due("came", x.about(0, 6), 2);
        due("count(4)", x.count(4), 8);
        due("count(6)", x.count(6), 0);
        due("cost", x.cost(0, 3), 0);
    }

    private void pins() {
        checks.part("6 pin");
        CopyPlacer x = chain(2, 0, 1);
        x.thing(2, 1, 0);
        due("no thing", x.pin(1, 0, true), false);
        due("thing -1", x.pin(-1, 0, true), false);
        due("no host", x.pin(0, 2, true), false);
        due("host -1", x.pin(0, -1, true), false);
        due("none", x.about(0, 2), 0);
        due("ahead of the copy", x.pin(0, 1, true), true);
        due("bits", x.about(0, 2), 2);
        ask(x, 1, 0, 2);
        due("it came", x.tick(2), 1);
        due("write(0, 0)", x.write(0, 0), 2);
        due("write(0, 0)", x.write(0, 0), 2);
        due("credit used up", x.credit(1, 0), 0);
        due("write(0, 0)", x.write(0, 0), 2);
        due("it stays", x.about(0, 0), 3);
        due("fall", x.fall(1), 1);
        due("the pin stays", x.about(0, 2), 2);
        due("rise", x.rise(1), true);
        ask(x, 1, 0, 2);
        due("it came", x.tick(2), 1);
        due("unpinned", x.pin(0, 1, false), true);
        due("bits", x.about(0, 2), 0);
        x.write(0, 0);
        due("credit left", x.about(0, 0), 3);
        x.write(0, 0);
        due("it went", x.about(0, 0), 1);
    }

    private void prices() {
        checks.part("7 price");
        CopyPlacer x = chain(5, 0, 0, 0, 0);
        x.host(1, 0);
        checks.dueNoPrice(x, -1, 0);
        checks.dueNoPrice(x, 0, 5);
        checks.dueNoPrice(x, BIG, SMALL);
        due("itself", x.price(2, 2), 0);
        due("by others", x.price(0, 3), 15);
        due("turned", x.price(3, 0), 15);
        due("no line", x.price(0, 4), -1);
        x.line(0, 3, 12);
        due("shorter", x.price(0, 3), 12);
        due("the other way round", x.price(1, 3), 10);
        x.cut(0, 3, true);
        due("cut", x.price(0, 3), 15);
        x.fall(1);
        due("by one that isn't up", x.price(0, 3), -1);
        due("to it", x.price(0, 1), -1);
        due("from it", x.price(1, 2), -1);
        due("from it to itself", x.price(1, 1), -1);
        due("the rest", x.price(2, 3), 5);
        x.cut(0, 3, false);
        due("round it", x.price(0, 2), 17);
        x.rise(1);
        due("risen", x.price(0, 2), 10);
    }

    private void nearest() {
        checks.part("8 nearest");
        CopyPlacer x = chain(3, 0, 1, 2);
        x.host(50, 3);
        x.thing(1, 2, 2);
        due("no thing", x.nearest(0, 1), -1);
        due("thing -1", x.nearest(0, -1), -1);
        due("no host", x.nearest(4, 0), -1);
        due("host -1", x.nearest(-1, 0), -1);
        due("far", x.nearest(0, 0), 2);
        due("not reached", x.nearest(3, 0), -1);
        ask(x, 0, 0, 1);
        due("coming doesn't count", x.nearest(0, 0), 2);
        x.tick(1);
        due("own", x.nearest(0, 0), 0);
        due("of like ones the least", x.nearest(1, 0), 0);
        x.cut(0, 1, true);
        due("the reached one", x.nearest(1, 0), 2);
        x.fall(1);
        due("not up", x.nearest(1, 0), -1);
        due("own still", x.nearest(2, 0), 2);
    }

    private void askAnswers() {
        checks.part("9 ask");
        CopyPlacer x = chain(3, 0, 1, 2);
        x.thing(20, 1, 0);
        due("no thing", x.ask(0, 1), -1);
        due("thing -1", x.ask(0, -1), -1);
        due("no host", x.ask(3, 0), -1);
        due("host least", x.ask(SMALL, 0), -1);
        due("these don't count", x.count(7), 0);
        due("own", x.ask(0, 0), 0);
        due("far", x.ask(2, 0), 6);
        due("cost", x.cost(0, 0), 6);
        x.cut(1, 2, true);
        due("none answers", x.ask(2, 0), -1);
        due("it counts", x.count(7), 1);
        due("no credit", x.credit(2, 0), 6);
        due("not in the log", x.about(0, 7), 2);
        x.fall(2);
        due("not up", x.ask(2, 0), -1);
        due("it doesn't count", x.count(7), 1);
        x.fall(0);
        due("no copy anywhere", x.ask(1, 0), -1);
        due("it counts", x.count(7), 2);
    }

    private void askCreditsOwnCopy() {
        checks.part("9 ask, own copy");
        CopyPlacer x = chain(3, 0, 1, 2);
        x.thing(1, 3, 0);
        x.ask(0, 0);
        due("no other one", x.credit(0, 0), 0);
        x.tick(1);
        x.tick(1);
        x.tick(1);
        due("everywhere", x.about(0, 0), 7);
        due("ask(0, 0)", x.ask(0, 0), 0);
        due("the nearest other", x.credit(0, 0), 3);
        x.fall(1);
        due("ask(0, 0)", x.ask(0, 0), 0);
        due("other not reached", x.credit(0, 0), 3);
    }

    private void askMakesCopy() {
        checks.part("9 ask, copy");
        CopyPlacer x = chain(3, 0, 1, 2);
        x.thing(2, 1, 0);
        x.ask(2, 0);
        due("not yet", x.about(0, 1), 0);
        x.ask(2, 0);
        due("just enough", x.about(0, 1), 4);
        due("count(5)", x.count(5), 1);
        due("credit stays", x.credit(2, 0), 12);
        due("cost", x.cost(0, 2), 12);
        due("made", x.count(6), 1);
        due("free", x.hostOf(2, 3), 198);
        x.ask(2, 0);
        due("none beside it", x.count(6), 1);
        due("credit grows on", x.credit(2, 0), 18);
        due("whole", x.tick(2), 1);
        x.ask(1, 0);
        x.ask(1, 0);
        due("from the least host of like ones", x.coming(0, 1, 0), 0);
        due("cost", x.cost(0, 2), 18);
    }

    private void askCreditHasATop() {
        checks.part("9 ask, top of credit");
        CopyPlacer x = chain(50, 0, 0, 0, 0, 0);
        x.host(19, 0);
        x.line(4, 5, 50);
        x.thing(20, 1, 0);
        ask(x, 5, 0, 19);
        due("credit", x.credit(5, 0), 4750);
        ask(x, 5, 0, 1);
        due("just 5000", x.credit(5, 0), 5000);
        due("no room", x.about(0, 1), 0);
        ask(x, 5, 0, 1);
        due("5000 and no more", x.credit(5, 0), 5000);
        due("costs go on", x.cost(0, 0), 5250);
        ask(x, 4, 0, 20);
        due("one with room", x.about(0, 1), 16);
        due("dear copy", x.cost(0, 2), 4000);
    }

    private void askLetsNearTheTopGo() {
        checks.part("9 ask, 4999 goes for 5000");
        CopyPlacer x = chain(50, 0, 0, 0, 0, 0);
        x.host(20, 0);
        x.line(4, 5, 1);
        x.thing(20, 1, 0);
        x.thing(20, 1, 0);
        x.pin(0, 0, true);
        ask(x, 5, 0, 20);
        due("it comes", x.tick(20), 1);
        ask(x, 5, 0, 5);
        due("at the top", x.credit(5, 0), 5000);
        due("a write from near", x.write(4, 0), 201);
        due("one below", x.credit(5, 0), 4999);
        ask(x, 5, 1, 24);
        due("not yet", x.about(1, 1), 0);
        ask(x, 5, 1, 1);
        due("at the top", x.credit(5, 1), 5000);
        due("made", x.about(1, 1), 32);
        due("gone", x.about(0, 0), 1);
    }

    private void askWithTwoComing() {
        checks.part("9 ask, two coming");
        CopyPlacer x = chain(1, 0, 0, 0, 0);
        x.thing(3, 1, 0);
        ask(x, 1, 0, 3);
        ask(x, 2, 0, 3);
        ask(x, 3, 0, 3);
        due("two only", x.about(0, 1), 6);
        x.tick(3);
        due("whole", x.about(0, 0), 7);
        due("ask(3, 0)", x.ask(3, 0), 1);
        due("now the third", x.about(0, 1), 8);
        due("from", x.coming(0, 3, 0), 2);
    }

    /** Four things on host 1 (room 12, each size 3) with credits 4, 3, 3, 6, all on host 0 too. */
    private static CopyPlacer crowded() {
        CopyPlacer x = new CopyPlacer();
        x.host(200, 0);
        x.host(12, 1);
        x.line(0, 1, 1);
        int[] more = {1, 0, 0, 3};
        for (int t = 0; t < 4; t++) {
            x.thing(3, 1, 0);
            ask(x, 1, t, 3);
        }
        x.tick(3);
        for (int t = 0; t < 4; t++) {
            ask(x, 1, t, more[t]);
        }
        return x;
    }

    private void askLetsOthersGo() {
        checks.part("9 ask, others go");
        CopyPlacer x = crowded();
        due("free", x.hostOf(1, 3), 0);
        due("credits", x.credit(1, 0), 4);
        due("credits", x.credit(1, 3), 6);
        x.thing(5, 1, 0);
        ask(x, 1, 4, 5);
        due("made", x.about(4, 1), 2);
        due("of like ones the least first", x.about(1, 0), 1);
        due("then the next", x.about(2, 0), 1);
        due("more credit stays", x.about(0, 0), 3);
        due("most credit stays", x.about(3, 0), 3);
        due("credit of what went", x.credit(1, 1), 0);
        due("count(8)", x.count(8), 2);
        due("count(9)", x.count(9), 0);
        due("free", x.hostOf(1, 3), 1);
        x.thing(4, 1, 0);
        ask(x, 1, 5, 4);
        due("only less credit goes", x.about(5, 1), 0);
        ask(x, 1, 5, 1);
        due("now less", x.about(5, 1), 2);
        due("it went", x.about(0, 0), 1);
        due("free", x.hostOf(1, 3), 0);
        due("count(8)", x.count(8), 3);
    }

    private void askLetsNoMoreGoThanNeeded() {
        checks.part("9 ask, no more than needed");
        CopyPlacer x = crowded();
        x.thing(3, 1, 0);
        ask(x, 1, 4, 3);
        due("like credit doesn't go", x.about(4, 1), 0);
        ask(x, 1, 4, 1);
        due("made", x.about(4, 1), 2);
        due("the least of like ones went", x.about(1, 0), 1);
        due("the next one stays", x.about(2, 0), 3);
        due("count(8)", x.count(8), 1);
        due("free", x.hostOf(1, 3), 0);
        x = crowded();
        x.pin(2, 1, true);
        x.thing(4, 1, 0);
        ask(x, 1, 4, 4);
        due("one short: none made", x.about(4, 1), 0);
        due("one short: none goes", x.about(1, 0), 3);
        ask(x, 1, 4, 1);
        due("two go for what was one short", x.about(4, 1), 2);
        due("by the least credit", x.about(1, 0), 1);
        due("then the next", x.about(0, 0), 1);
        due("free", x.hostOf(1, 3), 2);
    }

    private void askLetsNoneGoIfNotEnough() {
        checks.part("9 ask, not enough");
        CopyPlacer x = crowded();
        x.pin(1, 1, true);
        x.pin(2, 1, true);
        x.thing(5, 1, 0);
        ask(x, 1, 4, 5);
        due("none made", x.about(4, 1), 0);
        due("none gone", x.about(0, 0), 3);
        due("count(8)", x.count(8), 0);
        due("credit kept", x.credit(1, 4), 5);
        x.pin(1, 1, false);
        ask(x, 1, 4, 1);
        due("enough now", x.about(4, 1), 2);
        due("gone", x.about(0, 0), 1);
        due("gone", x.about(1, 0), 1);
        due("pinned stays", x.about(2, 0), 3);
        due("equal credit stays", x.about(3, 0), 3);
    }

    private void askLetsOnlyLesserCreditGo() {
        checks.part("9 ask, lesser credit");
        CopyPlacer x = new CopyPlacer();
        x.host(200, 0);
        x.host(4, 1);
        x.line(0, 1, 2);
        x.thing(3, 1, 0);
        ask(x, 1, 0, 3);
        x.thing(3, 1, 0);
        ask(x, 1, 1, 4);
        due("one that is coming never goes", x.about(0, 1), 2);
        due("none made", x.about(1, 1), 0);
        x.tick(3);
        x.pin(0, 0, true);
        ask(x, 1, 1, 1);
        due("now it goes", x.about(0, 0), 1);
        due("a pin elsewhere is nothing", x.about(1, 1), 2);
    }

    private void mayGoLooksAtRacks() {
        checks.part("9 ask, racks");
        CopyPlacer x = new CopyPlacer();
        x.host(200, 0);
        x.host(200, 0);
        x.host(6, 1);
        x.line(0, 1, 1);
        x.line(1, 2, 1);
        x.thing(2, 2, 0);
        x.tick(1);
        due("to the new rack", x.about(0, 1), 4);
        x.tick(2);
        ask(x, 1, 0, 2);
        x.tick(2);
        due("three", x.about(0, 0), 7);
        x.thing(6, 1, 0);
        ask(x, 2, 1, 6);
        due("the only one in its rack stays", x.about(0, 0), 7);
        due("none made", x.about(1, 1), 0);
        x.write(2, 0);
        x.write(2, 0);
        x.write(2, 0);
        due("one of two in a rack goes", x.about(0, 0), 6);
        due("least racks hold", x.write(1, 0), 1);
        due("least number", x.about(0, 0), 6);
    }

    private void writeNeedsMajority() {
        checks.part("10 write, majority");
        CopyPlacer x = chain(1, 0, 0, 0, 0);
        x.thing(1, 1, 0);
        x.thing(1, 1, 3);
        due("no thing", x.write(0, 2), -1);
        due("thing -1", x.write(0, -1), -1);
        due("no host", x.write(4, 0), -1);
        due("host least", x.write(SMALL, 0), -1);
        x.cut(1, 2, true);
        due("half with host 0", x.write(1, 0), 1);
        due("half without", x.write(2, 1), -2);
        due("half without, own copy", x.write(3, 1), -2);
        due("version stays", x.about(1, 5), 0);
        due("half with 0, but no copy", x.write(0, 1), -3);
        x.host(1, 0);
        due("less than half with host 0", x.write(0, 0), -2);
        x.cut(1, 2, false);
        due("four of five", x.write(3, 0), 3);
        x.fall(1);
        due("hosts that aren't up count", x.write(2, 1), -2);
        due("not up", x.write(1, 1), -1);
        due("version", x.about(0, 5), 2);
        due("log", x.about(0, 7), 2);
        due("cost", x.cost(0, 1), 4);
    }

    private void writeAmongSixHosts() {
        checks.part("10 write, six hosts");
        CopyPlacer x = chain(1, 0, 0, 0, 0, 0, 0);
        x.thing(1, 1, 4);
        x.cut(1, 2, true);
        due("four of six", x.write(2, 0), 2);
        x.cut(2, 3, true);
        due("three of six without host 0", x.write(4, 0), -2);
        x.cut(1, 2, false);
        due("three of six with host 0", x.write(2, 0), -3);
        x.cut(0, 1, true);
        due("two of six", x.write(1, 0), -2);
        due("one of six, host 0", x.write(0, 0), -2);
        CopyPlacer y = chain(1, 0, 0);
        y.thing(1, 1, 1);
        y.cut(0, 1, true);
        due("one of two, not host 0", y.write(1, 0), -2);
        due("one of two, host 0", y.write(0, 0), -3);
    }

    private void writeNeedsACopy() {
        checks.part("10 write, no copy");
        CopyPlacer x = chain(1, 0, 0, 0);
        x.thing(1, 1, 2);
        x.cut(1, 2, true);
        due("too few first", x.write(2, 0), -2);
        due("no copy", x.write(0, 0), -3);
        due("nothing changed", x.about(0, 0), 4);
        due("version", x.about(0, 5), 0);
        due("count(9)", x.count(9), 0);
        x.cut(1, 2, false);
        x.fall(2);
        due("none whole", x.write(0, 0), -3);
        due("log", x.about(0, 7), 0);
    }

    private void writeLosesUnreached() {
        checks.part("10 write, unreached");
        CopyPlacer x = chain(2, 0, 1, 2);
        x.thing(1, 3, 0);
        x.tick(1);
        x.tick(2);
        due("three", x.about(0, 0), 7);
        x.ask(2, 0);
        x.pin(0, 2, true);
        x.cut(1, 2, true);
        due("cost of the rest", x.write(0, 0), 2);
        due("gone though pinned", x.about(0, 0), 3);
        due("credit", x.credit(2, 0), 0);
        due("pin stays", x.about(0, 2), 4);
        due("count(9)", x.count(9), 1);
        due("free", x.hostOf(2, 3), 200);
        x.cut(1, 2, false);
        x.cut(0, 1, true);
        due("from the other side", x.write(2, 0), 2);
        due("host 0 is no other", x.about(0, 0), 2);
        due("count(9)", x.count(9), 2);
    }

    private void writeKeepsLeastInOneRack() {
        checks.part("10 write, least in one rack");
        CopyPlacer x = chain(1, 0, 0, 0);
        x.thing(1, 2, 0);
        x.tick(2);
        due("two in one rack", x.about(0, 0), 3);
        due("write(2, 0)", x.write(2, 0), 3);
        due("no more than least: none goes", x.about(0, 0), 3);
        x.ask(2, 0);
        x.tick(1);
        due("three", x.about(0, 0), 7);
        due("write(2, 0)", x.write(2, 0), 3);
        due("as many racks as with it: one goes", x.about(0, 0), 6);
    }

    private void writeUsesUpCredit() {
        checks.part("10 write, credit");
        CopyPlacer x = chain(3, 0, 1, 2);
        x.thing(2, 1, 0);
        ask(x, 2, 0, 2);
        x.tick(2);
        due("credit", x.credit(2, 0), 12);
        due("write(1, 0)", x.write(1, 0), 6);
        due("its price goes", x.credit(2, 0), 9);
        due("0 without credit went", x.about(0, 0), 4);
        due("count(9)", x.count(9), 1);
        due("own price is 0", x.write(2, 0), 0);
        due("credit as it was", x.credit(2, 0), 9);
        due("write(0, 0)", x.write(0, 0), 6);
        due("write(0, 0)", x.write(0, 0), 6);
        due("not below 0", x.credit(2, 0), 0);
        due("least stays", x.about(0, 0), 4);
        due("version", x.about(0, 5), 4);
    }

    private void writeLetsGoByHosts() {
        checks.part("10 write, by hosts");
        CopyPlacer x = chain(1, 0, 0, 0, 0);
        x.thing(1, 1, 1);
        ask(x, 0, 0, 1);
        ask(x, 2, 0, 1);
        x.tick(1);
        ask(x, 3, 0, 1);
        x.tick(1);
        due("four", x.about(0, 0), 15);
        due("write(2, 0)", x.write(2, 0), 4);
        due("all but the writer's", x.about(0, 0), 4);
        due("count(9)", x.count(9), 3);
        ask(x, 0, 0, 1);
        ask(x, 0, 0, 1);
        x.tick(1);
        due("two", x.about(0, 0), 5);
        due("write(3, 0)", x.write(3, 0), 4);
        due("the one with credit stays", x.about(0, 0), 1);
    }

    private void writeKeepsRacks() {
        checks.part("10 write, racks");
        CopyPlacer x = chain(1, 0, 1, 1, 1);
        x.thing(1, 2, 0);
        x.tick(2);
        due("two racks", x.about(0, 0), 3);
        ask(x, 2, 0, 1);
        x.tick(1);
        due("three", x.about(0, 0), 7);
        due("write(3, 0)", x.write(3, 0), 6);
        due("the only one in its rack stays, the least of the others goes", x.about(0, 0), 5);
    }

    private void ticks() {
        checks.part("11 tick");
        CopyPlacer x = chain(1, 0, 1);
        due("tick(0)", x.tick(0), -1);
        due("tick(201)", x.tick(201), -1);
        due("tick(-1)", x.tick(-1), -1);
        due("tick(most)", x.tick(BIG), -1);
        due("count(3)", x.count(3), 0);
        due("tick(1)", x.tick(1), 0);
        due("tick(200)", x.tick(200), 0);
        due("count(3)", x.count(3), 201);
        x.thing(3, 1, 0);
        x.thing(2, 1, 0);
        ask(x, 1, 0, 3);
        ask(x, 1, 1, 2);
        due("one of two", x.tick(2), 1);
        due("left", x.coming(0, 1, 1), 1);
        due("the other", x.tick(1), 1);
        due("no more", x.tick(5), 0);
    }

    private void tickLosesComing() {
        checks.part("11 tick, lost");
        CopyPlacer x = chain(1, 0, 1, 2);
        x.thing(2, 1, 0);
        ask(x, 2, 0, 2);
        x.cut(0, 1, true);
        due("still there", x.about(0, 1), 4);
        x.cut(0, 1, false);
        due("tick(1)", x.tick(1), 0);
        due("a cut between ticks is nothing", x.coming(0, 2, 1), 1);
        x.cut(0, 1, true);
        due("tick(1)", x.tick(1), 0);
        due("gone", x.about(0, 1), 0);
        due("its credit stays", x.credit(2, 0), 4);
        due("free again", x.hostOf(2, 3), 200);
        due("cost stays", x.cost(0, 2), 4);
        x.cut(0, 1, false);
        due("ask(2, 0)", x.ask(2, 0), 2);
        due("made again", x.about(0, 1), 4);
        x.fall(0);
        due("still coming", x.about(0, 1), 4);
        due("none answers", x.ask(2, 0), -1);
        x.tick(1);
        due("its source is gone", x.about(0, 1), 0);
        due("none left", x.about(0, 0), 0);
        due("nothing made of nothing", x.tick(3), 0);
        due("count(5)", x.count(5), 0);
    }

    /** Size 1: the source goes and comes again within one tick, ahead of a greater host's look at it. */
    private void tickGoesByHosts() {
        checks.part("11 tick, by hosts");
        CopyPlacer x = chain(1, 0, 0, 0, 0);
        x.thing(1, 1, 0);
        x.ask(1, 0);
        x.tick(1);
        x.ask(2, 0);
        due("from 1", x.coming(0, 2, 0), 1);
        x.write(0, 0);
        due("1 went", x.about(0, 0), 1);
        due("2 still comes", x.about(0, 1), 4);
        x.ask(1, 0);
        due("both come", x.about(0, 1), 6);
        due("both arrive, 1 first", x.tick(1), 2);
        due("whole", x.about(0, 0), 7);
    }

    private void tickKeepsLeast() {
        checks.part("11 tick, least");
        CopyPlacer x = chain(1, 0, 1, 2);
        x.thing(2, 3, 0);
        x.tick(1);
        due("one a tick", x.about(0, 1), 2);
        due("with all its ticks", x.coming(0, 1, 1), 2);
        x.tick(1);
        due("then the next", x.about(0, 1), 6);
        due("from", x.coming(0, 2, 0), 0);
        due("left", x.coming(0, 1, 1), 1);
        due("cost", x.cost(0, 2), 6);
        due("tick(2)", x.tick(2), 2);
        x.tick(2);
        due("no more than least", x.about(0, 1), 0);
        due("made", x.count(6), 2);
        x.fall(1);
        x.fall(2);
        x.tick(1);
        due("no place", x.about(0, 1), 0);
        x.rise(2);
        x.tick(1);
        due("not reached", x.about(0, 1), 0);
        x.rise(1);
        x.tick(1);
        due("reached", x.about(0, 1), 2);
    }

    private void tickChoosesPlace() {
        checks.part("11 tick, place");
        CopyPlacer x = new CopyPlacer();
        x.host(200, 0);
        x.host(200, 0);
        x.host(4, 1);
        x.host(200, 1);
        x.host(200, 2);
        x.line(0, 1, 1);
        x.line(0, 2, 7);
        x.line(0, 3, 9);
        x.line(0, 4, 9);
        x.thing(5, 2, 0);
        x.tick(1);
        due("another rack, free, then price, then host", x.about(0, 1), 8);
        x.thing(4, 2, 0);
        x.tick(1);
        due("of the other racks the least price", x.about(1, 1), 4);
        x.fall(3);
        x.fall(4);
        x.thing(4, 2, 0);
        x.tick(1);
        due("its own rack if no other has room", x.about(2, 1), 2);
        due("host 2 is full", x.hostOf(2, 3), 0);
        x.rise(4);
        x.pin(2, 4, true);
        x.thing(20, 3, 1);
        x.tick(2);
        due("a coming one's rack is used too", x.about(3, 1), 17);
    }

    private void falls() {
        checks.part("12 fall");
        CopyPlacer x = chain(2, 0, 1, 2);
        x.thing(1, 1, 0);
        x.thing(2, 1, 1);
        x.thing(3, 1, 1);
        ask(x, 1, 0, 1);
        ask(x, 2, 1, 1);
        due("no host", x.fall(3), -1);
        due("host -1", x.fall(-1), -1);
        due("host least", x.fall(SMALL), -1);
        due("whole and coming", x.fall(1), 3);
        due("not up", x.hostOf(1, 2), 0);
        due("again", x.fall(1), -1);
        due("credits", x.credit(1, 0), 0);
        due("credit elsewhere", x.credit(2, 1), 2);
        due("free", x.hostOf(1, 3), 200);
        due("whole", x.about(0, 0), 1);
        due("coming", x.about(0, 1), 0);
        due("none left", x.about(1, 0), 0);
        due("nothing there", x.fall(2), 0);
        due("counts by writes", x.count(9), 0);
        due("counts for others", x.count(8), 0);
    }

    private void rises() {
        checks.part("13 rise");
        CopyPlacer x = chain(2, 0, 1);
        x.thing(1, 1, 1);
        due("is up", x.rise(0), false);
        due("no host", x.rise(2), false);
        due("host -1", x.rise(-1), false);
        due("host most", x.rise(BIG), false);
        due("fall", x.fall(1), 1);
        due("rise", x.rise(1), true);
        due("up", x.hostOf(1, 2), 1);
        due("again", x.rise(1), false);
        due("copies don't come back", x.about(0, 0), 0);
        due("price", x.price(0, 1), 2);
        due("thing", x.thing(3, 1, 1), 1);
    }

    private void about() {
        checks.part("14 about");
        CopyPlacer x = chain(1, 0, 0, 0);
        x.thing(4, 2, 2);
        x.pin(0, 0, true);
        x.pin(0, 2, true);
        x.tick(1);
        x.write(2, 0);
        x.ask(0, 0);
        int[] want = {4, 2, 5, 4, 2, 1, 2, 2};
        for (int what = 0; what < want.length; what++) {
            due("about(0, " + what + ")", x.about(0, what), want[what]);
        }
        due("about(0, 8)", x.about(0, 8), -1);
        due("about(0, -1)", x.about(0, -1), -1);
        due("about(1, 0)", x.about(1, 0), -1);
        due("about(-1, 0)", x.about(-1, 0), -1);
        due("about(most, 3)", x.about(BIG, 3), -1);
    }

    private void coming() {
        checks.part("15 coming");
        CopyPlacer x = chain(1, 0, 0, 0);
        x.thing(4, 2, 2);
        x.tick(2);
        due("from", x.coming(0, 1, 0), 2);
        due("left", x.coming(0, 1, 1), 3);
        due("what 2", x.coming(0, 1, 2), -1);
        due("what -1", x.coming(0, 1, -1), -1);
        due("none there", x.coming(0, 0, 0), -1);
        due("whole there", x.coming(0, 2, 0), -1);
        due("no thing", x.coming(1, 1, 0), -1);
        due("thing -1", x.coming(-1, 1, 0), -1);
        due("no host", x.coming(0, 3, 0), -1);
        due("host -1", x.coming(0, -1, 1), -1);
        due("far out", x.coming(BIG, SMALL, 0), -1);
        x.tick(3);
        due("it is whole", x.coming(0, 1, 1), -1);
    }

    private void credits() {
        checks.part("16 credit");
        CopyPlacer x = chain(7, 0, 0);
        x.thing(4, 1, 0);
        due("at first", x.credit(1, 0), 0);
        x.ask(1, 0);
        due("credit(1, 0)", x.credit(1, 0), 7);
        due("credit(0, 0)", x.credit(0, 0), 0);
        due("no thing", x.credit(0, 1), -1);
        due("thing -1", x.credit(0, -1), -1);
        due("no host", x.credit(2, 0), -1);
        due("host -1", x.credit(-1, 0), -1);
        due("far out", x.credit(SMALL, BIG), -1);
    }

    private void hostOf() {
        checks.part("17 hostOf");
        CopyPlacer x = chain(7, 0, 3);
        x.host(30, 2);
        x.thing(4, 1, 2);
        due("room", x.hostOf(2, 0), 30);
        due("rack", x.hostOf(2, 1), 2);
        due("up", x.hostOf(2, 2), 1);
        due("free", x.hostOf(2, 3), 26);
        due("alone", x.hostOf(2, 4), 1);
        due("two", x.hostOf(0, 4), 2);
        x.line(1, 2, 5);
        due("three", x.hostOf(0, 4), 3);
        x.fall(1);
        due("not up", x.hostOf(1, 4), 0);
        due("not up", x.hostOf(1, 2), 0);
        due("cut off", x.hostOf(0, 4), 1);
        due("what 5", x.hostOf(0, 5), -1);
        due("what -1", x.hostOf(0, -1), -1);
        due("no host", x.hostOf(3, 0), -1);
        due("host -1", x.hostOf(-1, 0), -1);
        due("far out", x.hostOf(BIG, 3), -1);
    }

    private void costs() {
        checks.part("18 cost");
        CopyPlacer x = chain(5, 0, 0);
        x.thing(2, 1, 0);
        x.thing(1, 1, 1);
        ask(x, 1, 0, 3);
        x.tick(2);
        x.write(0, 0);
        x.write(1, 0);
        due("asks", x.cost(0, 0), 15);
        due("writes", x.cost(0, 1), 10);
        due("copies", x.cost(0, 2), 10);
        due("all", x.cost(0, 3), 35);
        due("another's", x.cost(1, 3), 0);
        due("what 4", x.cost(0, 4), -1);
        due("what -1", x.cost(0, -1), -1);
        due("no thing", x.cost(2, 0), -1);
        due("thing -1", x.cost(-1, 3), -1);
    }

    private void best() {
        checks.part("19 best");
        CopyPlacer x = chain(4, 0, 0, 0);
        x.thing(2, 1, 0);
        due("empty log", x.best(0), 0);
        due("no thing", x.best(1), -1);
        due("thing -1", x.best(-1), -1);
        due("bestAt of none", x.bestAt(0, 0), -1);
        x.ask(1, 0);
        due("one ask: going is less", x.best(0), 4);
        due("at home", x.bestAt(0, 0), 1);
        x.ask(1, 0);
        due("two asks: both ways cost 8", x.best(0), 8);
        due("of like ones the lesser number", x.bestAt(0, 0), 1);
        x.ask(1, 0);
        due("three: a copy", x.best(0), 8);
        due("moved there at once", x.bestAt(0, 0), 2);
        x.tick(2);
        x.write(2, 0);
        due("and a write", x.best(0), 12);
        due("the copy alone", x.bestAt(0, 3), 2);
        checks.part("20 bestAt");
        due("i 4", x.bestAt(0, 4), -1);
        due("i -1", x.bestAt(0, -1), -1);
        due("i most", x.bestAt(0, BIG), -1);
        due("no thing", x.bestAt(1, 0), -1);
        due("thing -1", x.bestAt(-1, 0), -1);
    }

    private static CopyPlacer triangle(int price01, int price02, int price12) {
        CopyPlacer x = new CopyPlacer();
        x.host(200, 0);
        x.host(200, 0);
        x.host(200, 0);
        x.line(0, 1, price01);
        x.line(0, 2, price02);
        x.line(1, 2, price12);
        x.thing(1, 1, 0);
        return x;
    }

    private void bestFollowsTheLog() {
        checks.part("20 bestAt, by the log");
        CopyPlacer x = triangle(2, 2, 1);
        x.ask(1, 0);
        x.ask(2, 0);
        x.ask(1, 0);
        x.ask(2, 0);
        // Host 1 at once for 2, host 2 from there for 1; at the last one host 1 may go for nothing.
        due("best", x.best(0), 3);
        due("first", x.bestAt(0, 0), 2);
        due("second", x.bestAt(0, 1), 6);
        due("third", x.bestAt(0, 2), 6);
        due("last", x.bestAt(0, 3), 4);
    }

    /** The rows 4, 4, 3, 1 and 4, 4, 4, 1 both cost 9: 3 is the lesser number, though of more hosts. */
    private void bestGoesByNumbers() {
        checks.part("20 bestAt, by numbers");
        CopyPlacer x = triangle(4, 3, 3);
        x.ask(2, 0);
        x.write(2, 0);
        x.ask(1, 0);
        x.write(0, 0);
        due("best", x.best(0), 9);
        due("first", x.bestAt(0, 0), 4);
        due("second", x.bestAt(0, 1), 4);
        due("third", x.bestAt(0, 2), 3);
        due("last", x.bestAt(0, 3), 1);
    }

    private void bestOverOpenLines() {
        checks.part("19 best, cut and fallen");
        CopyPlacer x = chain(4, 0, 0, 0);
        x.thing(20, 1, 0);
        x.host(200, 0);
        ask(x, 2, 0, 2);
        x.cut(0, 1, true);
        due("as if not cut", x.best(0), 16);
        x.fall(1);
        x.fall(0);
        due("as if up", x.best(0), 16);
        due("where nothing is now", x.bestAt(0, 1), 1);
    }

    private void bestAtBeforeBest() {
        checks.part("20 bestAt, ahead of best");
        CopyPlacer x = chain(4, 0, 0);
        x.host(200, 0);
        x.host(200, 0);
        x.line(2, 3, 4);
        x.thing(1, 1, 0);
        x.thing(1, 1, 3);
        ask(x, 1, 0, 2);
        ask(x, 2, 1, 2);
        due("where 1 is", x.bestAt(0, 0), 2);
        due("beyond its hosts", x.bestAt(1, 0), 4);
        due("best", x.best(0), 4);
        due("best", x.best(1), 4);
    }

    private void bestWithLaterLines() {
        checks.part("19 best, lines that came later");
        CopyPlacer x = chain(4, 0, 0, 0);
        x.thing(20, 1, 0);
        ask(x, 2, 0, 2);
        due("best", x.best(0), 16);
        x.line(0, 2, 3);
        due("best", x.best(0), 6);
        due("costs as they were", x.cost(0, 0), 16);
    }

    private void logEndsAtSixty() {
        checks.part("21 log, sixty");
        CopyPlacer x = chain(1, 0, 0);
        x.thing(20, 1, 0);
        ask(x, 0, 0, 59);
        x.write(1, 0);
        x.ask(1, 0);
        due("length", x.about(0, 7), 60);
        due("the last", x.log(0, 59, 1), 1);
        due("none behind", x.log(0, 60, 0), -1);
        due("costs go on", x.cost(0, 0), 1);
        due("best", x.best(0), 1);
        due("bestAt", x.bestAt(0, 59), 1);
        due("bestAt behind", x.bestAt(0, 60), -1);
    }

    private void log() {
        checks.part("21 log");
        CopyPlacer x = chain(3, 0, 0, 0);
        x.thing(5, 1, 0);
        x.ask(2, 0);
        x.write(1, 0);
        due("host", x.log(0, 0, 0), 2);
        due("ask", x.log(0, 0, 1), 0);
        due("cost", x.log(0, 0, 2), 6);
        due("host", x.log(0, 1, 0), 1);
        due("write", x.log(0, 1, 1), 1);
        due("cost", x.log(0, 1, 2), 3);
        due("what 3", x.log(0, 0, 3), -1);
        due("what -1", x.log(0, 0, -1), -1);
        due("i 2", x.log(0, 2, 0), -1);
        due("i -1", x.log(0, -1, 0), -1);
        due("i least", x.log(0, SMALL, 0), -1);
        due("no thing", x.log(1, 0, 0), -1);
        due("thing -1", x.log(-1, 0, 0), -1);
    }

    private void counts() {
        checks.part("22 count");
        CopyPlacer x = crowded();
        x.host(5, 0);
        x.thing(5, 1, 0);
        ask(x, 1, 4, 5);
        x.ask(2, 0);
        x.cut(0, 1, true);
        x.cut(0, 1, false);
        x.write(0, 0);
        ask(x, 0, 3, 1);
        x.tick(1);
        int[] want = {3, 1, 5, 4, 7, 1, 5, 1, 2, 0};
        for (int what = 0; what < want.length; what++) {
            due("count(" + what + ")", x.count(what), want[what]);
        }
        for (int i = 0; i < 3; i++) {
            x.write(0, 0);
        }
        due("count(9)", x.count(9), 1);
        due("count(10)", x.count(10), -1);
        due("count(-1)", x.count(-1), -1);
        due("count(least)", x.count(SMALL), -1);
    }
}
