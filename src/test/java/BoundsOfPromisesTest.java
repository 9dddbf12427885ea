/**
 * Each sentence of the promises 1 to 22 that says what NONE, false, -2, -3, 0 or the exception
 * answers: every cause alone, with the nearest call beside it that is not refused.
 */
public final class BoundsOfPromisesTest {
    private static final long TRUE = Teller.TRUE;
    private static final long FALSE = Teller.FALSE;
    private static final long NONE = Teller.NONE;
    private static final int[] FAR_OUT = {Teller.LEAST_INT, Teller.LEAST_INT + 1, -1000000, -2, 1 << 16, 1 << 30,
        Teller.MOST_INT - 1, Teller.MOST_INT};

    private final Teller t = new Teller();

    public static void main(String[] args) {
        BoundsOfPromisesTest test = new BoundsOfPromisesTest();
        test.newObject();
        test.host();
        test.line();
        test.cut();
        test.thing();
        test.pin();
        test.price();
        test.nearest();
        test.ask();
        test.write();
        test.tick();
        test.mostTicks();
        test.fall();
        test.rise();
        test.about();
        test.coming();
        test.credit();
        test.hostOf();
        test.cost();
        test.best();
        test.bestAt();
        test.log();
        test.count();
        test.countGone();
        test.t.end();
    }

    /** Three hosts in a chain of price 2, two things: 0 (size 3) on host 0, 1 (size 2) on host 2. */
    private void small() {
        t.chain(2, 0, 1, 2);
        t.due("thing 3 1 0", 0);
        t.due("thing 2 1 2", 1);
    }

    /** The call with each number far out in the place of the '#'. */
    private void dueFarOut(String call, long want) {
        for (int n : FAR_OUT) {
            t.due(call.replace("#", String.valueOf(n)), want);
        }
    }

    private void newObject() {
        t.words("No HOSTS, THINGS; TICK 0.");
        for (int what = 0; what <= 9; what++) {
            t.due("count " + what, 0);
        }
        t.due("line 0 1 1", FALSE);
        t.due("cut 0 1 true", FALSE);
        t.due("thing 1 1 0", NONE);
        t.due("pin 0 0 true", FALSE);
        t.dueThrown("price 0 0");
        t.due("nearest 0 0", NONE);
        t.due("ask 0 0", NONE);
        t.due("write 0 0", NONE);
        t.due("fall 0", NONE);
        t.due("rise 0", FALSE);
        t.due("about 0 0", NONE);
        t.due("coming 0 0 0", NONE);
        t.due("credit 0 0", NONE);
        t.due("hostOf 0 0", NONE);
        t.due("cost 0 0", NONE);
        t.due("best 0", NONE);
        t.due("bestAt 0 0", NONE);
        t.due("log 0 0 0", NONE);
        for (int what = 0; what <= 9; what++) {
            t.due("count " + what, 0);
        }
        t.due("tick 1", 0);
        t.due("count 3", 1);
        t.due("host 1 1", 0);
    }

    private void host() {
        t.words("A HOST: its number; NONE: other numbers, six are there.");
        t.due("host -1 0", NONE);
        t.due("host 201 0", NONE);
        t.due("host 0 -1", NONE);
        t.due("host 0 4", NONE);
        t.due("host -1 4", NONE);
        dueFarOut("host # 0", NONE);
        dueFarOut("host 0 #", NONE);
        t.due("count 0", 0);
        t.due("host 0 0", 0);
        t.due("host 200 3", 1);
        t.due("host 200 0", 2);
        t.due("host 0 3", 3);
        t.due("host 100 1", 4);
        t.due("host 100 2", 5);
        t.due("host 100 2", NONE);
        t.due("host 201 2", NONE);
        t.due("count 0", 6);
    }

    private void line() {
        t.words("A LINE. False: no such HOSTS, both are one, there is one, PRICE.");
        t.go("host 1 0", "host 1 0", "host 1 0");
        t.due("line -1 0 5", FALSE);
        t.due("line 0 -1 5", FALSE);
        t.due("line 3 0 5", FALSE);
        t.due("line 0 3 5", FALSE);
        t.due("line 3 4 5", FALSE);
        dueFarOut("line # 0 5", FALSE);
        dueFarOut("line 0 # 5", FALSE);
        t.due("line 0 0 5", FALSE);
        t.due("line 2 2 5", FALSE);
        t.due("line 3 3 5", FALSE);
        t.due("line 0 1 0", FALSE);
        t.due("line 0 1 51", FALSE);
        dueFarOut("line 0 1 #", FALSE);
        t.due("count 1", 0);
        t.due("price 0 1", NONE);
        t.due("line 0 1 50", TRUE);
        t.due("line 0 1 50", FALSE);
        t.due("line 1 0 1", FALSE);
        t.due("line 0 2 1", TRUE);
        t.due("count 1", 2);
        // A host needs not be up for it.
        t.go("fall 1");
        t.due("line 1 2 9", TRUE);
        t.due("price 1 2", NONE);
        t.go("rise 1");
        t.due("price 1 2", 9);
        t.fresh();
        t.go("host 1 0", "host 1 0", "fall 1");
        t.due("line 0 1 9", TRUE);
        t.due("count 1", 1);
    }

    private void cut() {
        t.words("A LINE is CUT, or not. False: no such LINE.");
        t.chain(2, 0, 0, 0);
        for (String is : new String[] {" true", " false"}) {
            t.due("cut 0 2" + is, FALSE);
            t.due("cut 2 0" + is, FALSE);
            t.due("cut 1 1" + is, FALSE);
            t.due("cut 2 3" + is, FALSE);
            t.due("cut 3 2" + is, FALSE);
            t.due("cut -1 0" + is, FALSE);
            t.due("cut 0 -1" + is, FALSE);
            dueFarOut("cut # 0" + is, FALSE);
            dueFarOut("cut 0 #" + is, FALSE);
        }
        t.due("price 0 2", 4);
        t.due("cut 1 0 true", TRUE);
        t.due("price 0 1", NONE);
        t.due("price 1 2", 2);
        t.go("fall 0");
        t.due("cut 0 1 true", TRUE);
        t.due("cut 1 0 false", TRUE);
        t.due("price 0 1", NONE);
        t.go("rise 0");
        t.due("price 0 1", 2);
        t.due("count 1", 2);
    }

    private void thing() {
        t.words("A THING with a WHOLE COPY on a HOST: its number; NONE: other numbers, no such HOST, it isn't UP, "
            + "SIZE isn't free, eight are there.");
        t.go("host 20 0", "host 19 0");
        t.due("thing 0 1 0", NONE);
        t.due("thing 21 1 0", NONE);
        dueFarOut("thing # 1 0", NONE);
        t.due("thing 1 0 0", NONE);
        t.due("thing 1 4 0", NONE);
        dueFarOut("thing 1 # 0", NONE);
        t.due("thing 1 1 -1", NONE);
        t.due("thing 1 1 2", NONE);
        dueFarOut("thing 1 1 #", NONE);
        t.due("thing 20 1 1", NONE);
        t.go("fall 0");
        t.due("thing 1 1 0", NONE);
        t.go("rise 0");
        t.due("count 2", 0);
        t.due("hostOf 0 3", 20);
        t.due("thing 20 1 0", 0);
        t.due("thing 1 1 0", NONE);
        t.due("thing 13 3 1", 1);
        t.due("thing 7 3 1", NONE);
        for (int i = 2; i < 8; i++) {
            t.due("thing 1 1 1", i);
        }
        t.due("hostOf 1 3", 0);
        t.due("about 0 0", 1);
        t.due("about 1 0", 2);
        t.go("fall 0", "rise 0");
        t.due("hostOf 0 3", 20);
        t.due("thing 1 1 0", NONE);
        t.due("count 2", 8);
        // Nothing gives way for it, though it could.
        t.fresh();
        t.go("host 200 0", "host 1 0", "line 0 1 1", "thing 1 1 0", "ask 1 0", "tick 1");
        t.due("hostOf 1 3", 0);
        t.due("thing 1 1 1", NONE);
        t.due("about 0 0", 3);
    }

    private void pin() {
        t.words("The COPY of a THING that is on a HOST, or will be, is PINNED, or not. False: no such ones.");
        small();
        for (String is : new String[] {" true", " false"}) {
            t.due("pin 2 0" + is, FALSE);
            t.due("pin -1 0" + is, FALSE);
            t.due("pin 0 3" + is, FALSE);
            t.due("pin 0 -1" + is, FALSE);
            t.due("pin 2 3" + is, FALSE);
            dueFarOut("pin # 0" + is, FALSE);
            dueFarOut("pin 0 #" + is, FALSE);
        }
        t.due("about 0 2", 0);
        t.due("about 1 2", 0);
        t.dues("pin 0 0 true", TRUE, TRUE);
        t.due("pin 0 2 true", TRUE);
        t.due("about 0 2", 5);
        t.due("about 1 2", 0);
        t.dues("pin 0 0 false", TRUE, TRUE);
        t.due("pin 0 1 false", TRUE);
        t.due("about 0 2", 4);
        t.go("fall 1");
        t.due("pin 1 1 true", TRUE);
        t.due("about 1 2", 2);
    }

    private void price() {
        t.words("PRICE from a HOST to another one; NONE: not REACHED. NoSuchElementException: no such HOSTS.");
        t.go("host 1 0", "host 1 0", "host 1 0", "line 0 1 8");
        t.dueThrown("price 3 0");
        t.dueThrown("price 0 3");
        t.dueThrown("price 3 3");
        t.dueThrown("price -1 0");
        t.dueThrown("price 0 -1");
        t.dueThrown("price -1 -1");
        dueFarOut("price # 0", Run.THROWN);
        dueFarOut("price 0 #", Run.THROWN);
        t.due("price 0 1", 8);
        t.due("price 2 2", 0);
        t.due("price 0 2", NONE);
        t.due("price 2 0", NONE);
        t.go("fall 0");
        t.due("price 0 1", NONE);
        t.due("price 0 0", NONE);
        t.dueThrown("price 0 3");
        t.go("host 1 0");
        t.due("price 3 3", 0);
        t.dueThrown("price 4 3");
    }

    private void nearest() {
        t.words("The HOST of the NEAREST one; NONE: no such ones, the HOST isn't UP, none is REACHED.");
        small();
        t.due("nearest 3 0", NONE);
        t.due("nearest -1 0", NONE);
        t.due("nearest 0 2", NONE);
        t.due("nearest 0 -1", NONE);
        dueFarOut("nearest # 0", NONE);
        dueFarOut("nearest 0 #", NONE);
        t.due("nearest 2 0", 0);
        t.due("nearest 0 0", 0);
        t.go("cut 0 1 true");
        t.due("nearest 2 0", NONE);
        t.go("cut 0 1 false", "fall 2");
        t.due("nearest 2 0", NONE);
        t.due("nearest 0 1", NONE);
        t.due("nearest 1 0", 0);
    }

    private void ask() {
        t.words("An ASK: what it costs. NONE: no such ones, the HOST isn't UP, nothing answers it.");
        small();
        t.due("ask 3 0", NONE);
        t.due("ask -1 0", NONE);
        t.due("ask 0 2", NONE);
        t.due("ask 0 -1", NONE);
        dueFarOut("ask # 0", NONE);
        dueFarOut("ask 0 #", NONE);
        t.go("fall 1");
        t.due("ask 1 0", NONE);
        t.due("count 7", 0);
        t.due("ask 2 0", NONE);
        t.due("count 7", 1);
        t.go("fall 0");
        t.due("ask 0 0", NONE);
        t.due("count 7", 1);
        t.go("rise 0", "rise 1");
        t.due("ask 0 0", NONE);
        t.due("count 7", 2);
        t.due("about 0 7", 0);
        t.due("credit 2 0", 0);
        t.due("cost 0 3", 0);
        t.due("ask 2 1", 0);
        t.due("ask 0 1", 4);
        t.due("about 1 7", 2);
    }

    private void write() {
        t.words("A WRITE: what it costs. NONE: no such ones, the HOST isn't UP; "
            + "-2: too few HOSTS are REACHED; -3 (else): no WHOLE COPY is.");
        small();
        t.due("write 3 0", NONE);
        t.due("write -1 0", NONE);
        t.due("write 0 2", NONE);
        t.due("write 0 -1", NONE);
        dueFarOut("write # 0", NONE);
        dueFarOut("write 0 #", NONE);
        t.due("write 2 0", 4);
        t.due("write 2 1", 0);
        t.go("cut 1 2 true");
        t.due("write 2 0", -2);
        t.due("write 2 1", -2);
        t.due("write 1 0", 2);
        t.due("write 1 1", -3);
        t.due("write 0 1", -3);
        t.go("fall 0");
        t.due("write 0 0", NONE);
        t.due("write 1 0", -2);
        // Two of three, but no copy is left at all.
        t.go("cut 1 2 false");
        t.due("write 2 0", -3);
        t.due("write 1 1", 2);
        t.due("about 0 5", 2);
        t.due("about 1 5", 2);
        t.due("about 0 7", 2);
        t.due("count 7", 0);
    }

    private void tick() {
        t.words("So many TICKS (1 to 200): how many COPIES became WHOLE in them. NONE: another n.");
        small();
        t.times(3, "ask 2 0");
        t.times(2, "ask 1 1");
        t.due("tick 0", NONE);
        t.due("tick -1", NONE);
        t.due("tick 201", NONE);
        dueFarOut("tick #", NONE);
        t.due("count 3", 0);
        t.due("coming 0 2 1", 3);
        t.due("coming 1 1 1", 2);
        t.due("tick 200", 2);
        t.due("count 3", 200);
        t.due("tick 1", 0);
        t.due("count 3", 201);
        t.due("tick 199", 0);
        t.due("count 3", 400);
        // Those made in the ticks, too: with LEAST 3 and SIZE 1 the second is whole with the third tick.
        t.fresh();
        t.chain(1, 0, 1, 2);
        t.go("thing 1 3 0");
        t.due("tick 3", 2);
        t.due("tick 1", 0);
        t.fresh();
        t.chain(1, 0, 1, 2);
        t.go("thing 1 3 0");
        t.dues("tick 1", 0, 1, 1, 0);
    }

    private void mostTicks() {
        t.words("An object is used for at most 512 calls after it has been made");
        t.times(511, "tick 200");
        t.due("count 3", 102200);
        t.fresh();
        t.chain(50, 0, 0, 0, 0, 0);
        t.go("host 0 0", "line 4 5 50", "thing 20 1 0");
        t.times(490, "ask 5 0");
        t.due("cost 0 0", 122500);
        t.due("cost 0 3", 122500);
        t.due("about 0 7", 60);
        t.due("log 0 59 2", 250);
        t.due("credit 5 0", 5000);
        t.due("best 0", 5000);
        t.fresh();
        t.go("host 200 0", "host 200 0", "line 0 1 50", "thing 1 1 0");
        t.times(500, "write 1 0");
        t.due("about 0 5", 500);
        t.due("cost 0 1", 25000);
        t.due("log 0 59 2", 50);
        t.due("best 0", 50);
    }

    private void fall() {
        t.words("A HOST FALLS: how many COPIES are gone. NONE: no such one, it isn't UP.");
        small();
        t.due("fall 3", NONE);
        t.due("fall -1", NONE);
        dueFarOut("fall #", NONE);
        t.times(3, "ask 2 0");
        t.due("fall 1", 0);
        t.due("fall 1", NONE);
        t.due("fall 2", 2);
        t.due("fall 2", NONE);
        t.due("fall 0", 1);
        t.due("fall 0", NONE);
        t.due("count 4", 0);
        t.due("count 8", 0);
        t.due("count 9", 0);
    }

    private void rise() {
        t.words("It RISES. False: no such one, it is UP.");
        small();
        t.due("rise 3", FALSE);
        t.due("rise -1", FALSE);
        dueFarOut("rise #", FALSE);
        t.due("rise 2", FALSE);
        t.go("fall 2");
        t.due("rise 2", TRUE);
        t.due("rise 2", FALSE);
        t.due("hostOf 2 2", 1);
        t.due("about 1 0", 0);
        t.due("hostOf 2 3", 200);
    }

    private void about() {
        t.words("7 how many are in its LOG. NONE for others.");
        t.chain(1, 0, 0);
        t.go("thing 20 3 1", "pin 0 0 true", "tick 1", "ask 0 0", "write 0 0");
        long[] due = {2, 1, 1, 20, 3, 1, 1, 2};
        for (int what = 0; what < due.length; what++) {
            t.due("about 0 " + what, due[what]);
        }
        t.due("about 0 -1", NONE);
        t.due("about 0 8", NONE);
        dueFarOut("about 0 #", NONE);
        for (int what = 0; what < due.length; what++) {
            t.due("about 1 " + what, NONE);
            t.due("about -1 " + what, NONE);
        }
        dueFarOut("about # 0", NONE);
        // Nothing anywhere: no bits, not NONE.
        t.go("fall 0", "fall 1");
        t.due("about 0 0", 0);
        t.due("about 0 1", 0);
        t.go("pin 0 0 false");
        t.due("about 0 2", 0);
        // All of six.
        t.fresh();
        t.star(1, 6);
        t.go("thing 1 1 0");
        for (int h = 0; h < 6; h++) {
            t.go("ask " + h + " 0", "pin 0 " + h + " true", "tick 1");
        }
        t.due("about 0 0", 63);
        t.due("about 0 2", 63);
    }

    private void coming() {
        t.words("Of a COPY that is COMING what 0 the HOST from which, 1 TICKS that are left. NONE: there is none such.");
        small();
        t.times(3, "ask 1 0");
        t.due("coming 0 1 0", 0);
        t.due("coming 0 1 1", 3);
        t.due("coming 0 1 -1", NONE);
        t.due("coming 0 1 2", NONE);
        dueFarOut("coming 0 1 #", NONE);
        t.due("coming 0 0 0", NONE);
        t.due("coming 0 2 0", NONE);
        t.due("coming 1 1 0", NONE);
        t.due("coming 2 1 0", NONE);
        t.due("coming -1 1 0", NONE);
        t.due("coming 0 3 0", NONE);
        t.due("coming 0 -1 0", NONE);
        dueFarOut("coming # 1 0", NONE);
        dueFarOut("coming 0 # 0", NONE);
        t.go("tick 2");
        t.due("coming 0 1 1", 1);
        t.go("tick 1");
        t.due("coming 0 1 0", NONE);
        t.due("coming 0 1 1", NONE);
    }

    private void credit() {
        t.words("CREDIT of a HOST for a THING. NONE: no such ones.");
        small();
        t.go("ask 2 0");
        t.due("credit 2 0", 4);
        t.due("credit 0 0", 0);
        t.due("credit 0 1", 0);
        t.due("credit 3 0", NONE);
        t.due("credit -1 0", NONE);
        t.due("credit 2 2", NONE);
        t.due("credit 2 -1", NONE);
        dueFarOut("credit # 0", NONE);
        dueFarOut("credit 2 #", NONE);
        t.go("fall 2");
        t.due("credit 2 0", 0);
    }

    private void hostOf() {
        t.words("4 how many HOSTS are REACHED from it (it, too; 0, if it isn't UP). NONE for others.");
        t.chain(3, 0, 1, 2);
        t.go("host 30 3", "thing 4 1 3");
        long[] due = {30, 3, 1, 26, 1};
        for (int what = 0; what < due.length; what++) {
            t.due("hostOf 3 " + what, due[what]);
        }
        t.due("hostOf 3 -1", NONE);
        t.due("hostOf 3 5", NONE);
        dueFarOut("hostOf 3 #", NONE);
        for (int what = 0; what < due.length; what++) {
            t.due("hostOf 4 " + what, NONE);
            t.due("hostOf -1 " + what, NONE);
        }
        dueFarOut("hostOf # 0", NONE);
        t.due("hostOf 0 4", 3);
        t.go("line 2 3 1");
        t.due("hostOf 0 4", 4);
        t.go("cut 1 2 true");
        t.due("hostOf 0 4", 2);
        t.due("hostOf 3 4", 2);
        t.go("fall 3");
        t.due("hostOf 3 4", 0);
        t.due("hostOf 3 2", 0);
        t.due("hostOf 3 0", 30);
        t.due("hostOf 3 3", 30);
        t.due("hostOf 2 4", 1);
        t.fresh();
        t.star(1, 6);
        t.due("hostOf 5 4", 6);
    }

    private void cost() {
        t.words("COSTS of a THING: what 0 of ASKS, 1 of WRITES, 2 of COPIES MADE, 3 all. NONE for others.");
        small();
        for (int what = 0; what <= 3; what++) {
            t.due("cost 0 " + what, 0);
            t.due("cost 2 " + what, NONE);
            t.due("cost -1 " + what, NONE);
        }
        t.times(3, "ask 1 0");
        t.go("write 2 0");
        long[] due = {6, 4, 6, 16};
        for (int what = 0; what <= 3; what++) {
            t.due("cost 0 " + what, due[what]);
            t.due("cost 1 " + what, 0);
        }
        t.due("cost 0 -1", NONE);
        t.due("cost 0 4", NONE);
        dueFarOut("cost 0 #", NONE);
        dueFarOut("cost # 0", NONE);
        // What was paid for a copy stays paid when it is lost.
        t.go("cut 0 1 true", "tick 1");
        t.due("count 5", 0);
        t.due("cost 0 2", 6);
    }

    private void best() {
        t.words("BEST of a THING (0 for an empty LOG); NONE: no such one.");
        small();
        t.due("best 0", 0);
        t.due("best 1", 0);
        t.due("best 2", NONE);
        t.due("best -1", NONE);
        dueFarOut("best #", NONE);
        t.go("cut 0 1 true", "ask 1 0");
        t.due("best 0", 0);
        t.go("cut 0 1 false", "ask 1 0");
        t.due("best 0", 2);
        t.due("best 1", 0);
        // One host alone.
        t.fresh();
        t.go("host 1 0", "thing 1 1 0", "ask 0 0", "write 0 0");
        t.due("best 0", 0);
        t.due("bestAt 0 0", 1);
        t.due("bestAt 0 1", 1);
    }

    private void bestAt() {
        t.words("The SET, as bits, of the i-th in its LOG. NONE: no such one.");
        small();
        t.due("bestAt 0 0", NONE);
        t.due("bestAt 0 -1", NONE);
        t.go("ask 1 0");
        t.due("bestAt 0 0", 1);
        t.due("bestAt 0 1", NONE);
        t.due("bestAt 0 -1", NONE);
        dueFarOut("bestAt 0 #", NONE);
        t.due("bestAt 1 0", NONE);
        t.due("bestAt 2 0", NONE);
        t.due("bestAt -1 0", NONE);
        dueFarOut("bestAt # 0", NONE);
        t.times(58, "ask 0 0");
        t.due("bestAt 0 58", 1);
        t.due("bestAt 0 59", NONE);
        t.go("ask 0 0");
        t.due("bestAt 0 59", 1);
        t.due("bestAt 0 60", NONE);
        t.go("ask 0 0");
        t.due("bestAt 0 60", NONE);
    }

    private void log() {
        t.words("Of the i-th in a LOG what 0 the HOST, 1 whether it is a WRITE (1, 0), 2 what it cost. NONE for others.");
        small();
        t.due("log 0 0 0", NONE);
        t.go("ask 1 0", "write 2 0");
        long[][] due = {{1, 0, 2}, {2, 1, 4}};
        for (int i = 0; i < 2; i++) {
            for (int what = 0; what < 3; what++) {
                t.due("log 0 " + i + " " + what, due[i][what]);
            }
            t.due("log 0 " + i + " -1", NONE);
            t.due("log 0 " + i + " 3", NONE);
        }
        dueFarOut("log 0 0 #", NONE);
        for (int what = 0; what < 3; what++) {
            t.due("log 0 -1 " + what, NONE);
            t.due("log 0 2 " + what, NONE);
            t.due("log 1 0 " + what, NONE);
            t.due("log 2 0 " + what, NONE);
            t.due("log -1 0 " + what, NONE);
        }
        dueFarOut("log 0 # 0", NONE);
        dueFarOut("log # 0 0", NONE);
    }

    private void count() {
        t.words("9 COPIES gone by WRITES (those not REACHED, too). NONE for others.");
        t.due("count -1", NONE);
        t.due("count 10", NONE);
        dueFarOut("count #", NONE);
        t.due("count 9", 0);

        t.words("7 ASKS that nothing answered (of HOSTS that are UP)");
        small();
        t.go("fall 1");
        t.due("ask 1 0", NONE);
        t.due("ask 3 0", NONE);
        t.due("ask 2 2", NONE);
        t.due("count 7", 0);
        t.due("ask 2 0", NONE);
        t.due("count 7", 1);
        t.due("nearest 2 0", NONE);
        t.due("ask 0 1", NONE);
        t.due("count 7", 2);

        t.words("4 COPIES that are WHOLE, 5 COMING, 6 COPIES MADE ever");
        small();
        t.due("count 4", 2);
        t.due("count 6", 0);
        t.times(3, "ask 1 0");
        t.times(2, "ask 1 1");
        t.due("count 4", 2);
        t.due("count 5", 2);
        t.due("count 6", 2);
        t.due("tick 2", 1);
        t.due("count 4", 3);
        t.due("count 5", 1);
        t.go("fall 1");
        t.due("count 4", 2);
        t.due("count 5", 0);
        t.due("count 6", 2);
    }

    private void countGone() {
        t.words("8 COPIES gone as others came, 9 COPIES gone by WRITES (those not REACHED, too)");
        // One gives way, one is used up by a write, one is not reached, one falls.
        t.go("host 200 0", "host 2 0", "host 200 0", "line 0 1 1", "line 0 2 1");
        t.go("thing 2 1 0", "ask 1 0", "ask 1 0", "tick 2", "thing 2 1 0", "ask 1 1", "ask 1 1", "ask 1 1");
        t.due("about 0 0", 1);
        t.due("count 8", 1);
        t.due("count 9", 0);
        t.due("tick 2", 1);
        t.go("write 0 1", "write 0 1");
        t.due("about 1 0", 3);
        t.due("count 9", 0);
        t.go("write 0 1");
        t.due("about 1 0", 1);
        t.due("count 9", 1);
        t.go("ask 2 1", "ask 2 1", "tick 2");
        t.due("about 1 0", 5);
        t.go("cut 0 2 true", "write 1 1");
        t.due("about 1 0", 1);
        t.due("count 9", 2);
        t.go("fall 0");
        t.due("count 8", 1);
        t.due("count 9", 2);
    }
}
