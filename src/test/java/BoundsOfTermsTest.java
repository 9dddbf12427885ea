/**
 * Each sentence of the document's "Terms" that names a boundary: the last that is taken and the
 * first that is not, the empty and the full, worked out by hand.
 */
public final class BoundsOfTermsTest {
    private static final long TRUE = Teller.TRUE;
    private static final long FALSE = Teller.FALSE;
    private static final long NONE = Teller.NONE;

    private final Teller t = new Teller();

    public static void main(String[] args) {
        BoundsOfTermsTest test = new BoundsOfTermsTest();
        test.hosts();
        test.lines();
        test.prices();
        test.pricesRoundACut();
        test.things();
        test.credit();
        test.nearest();
        test.mayGo();
        test.mayGoByRacks();
        test.made();
        test.askOfOwnCopy();
        test.askComesToACopy();
        test.askFindsRoom();
        test.askNotEnoughRoom();
        test.writeMajority();
        test.writeNeedsACopy();
        test.writeUnreached();
        test.writeCredit();
        test.writeByHosts();
        test.fallAndRise();
        test.tickComing();
        test.tickLeast();
        test.tickPlace();
        test.log();
        test.best();
        test.bestOrder();
        test.t.end();
    }

    private void hosts() {
        t.words("HOSTS (at most 6, numbered as they come)");
        for (int h = 0; h < 6; h++) {
            t.due("host 10 0", h);
        }
        t.due("host 10 0", NONE);
        t.due("count 0", 6);
        t.due("hostOf 5 0", 10);
        t.due("hostOf 6 0", NONE);
        t.go("fall 0");
        t.due("host 10 0", NONE);
        t.fresh();
        t.due("host 201 0", NONE);
        t.due("host 10 0", 0);

        t.words("ROOM (0 to 200)");
        t.due("host -1 0", NONE);
        t.due("host 0 0", 0);
        t.due("host 1 0", 1);
        t.due("host 199 0", 2);
        t.due("host 200 0", 3);
        t.due("host 201 0", NONE);
        t.due("hostOf 0 0", 0);
        t.due("hostOf 0 3", 0);
        t.due("hostOf 3 0", 200);
        t.due("hostOf 3 3", 200);
        t.due("thing 1 1 0", NONE);
        t.due("thing 1 1 1", 0);
        t.due("hostOf 1 3", 0);

        t.words("a RACK (0 to 3)");
        t.due("host 1 -1", NONE);
        t.due("host 1 0", 0);
        t.due("host 1 3", 1);
        t.due("host 1 4", NONE);
        t.due("hostOf 0 1", 0);
        t.due("hostOf 1 1", 3);

        t.words("UP or not (at first it is)");
        t.due("host 1 0", 0);
        t.due("hostOf 0 2", 1);
        t.due("fall 0", 0);
        t.due("hostOf 0 2", 0);
    }

    private void lines() {
        t.words("LINES between two HOSTS, one at most");
        t.go("host 1 0", "host 1 0", "host 1 0");
        t.due("line 0 1 5", TRUE);
        t.due("line 0 1 5", FALSE);
        t.due("line 1 0 4", FALSE);
        t.due("line 1 1 4", FALSE);
        t.due("price 0 1", 5);
        t.due("cut 0 1 true", TRUE);
        t.due("line 0 1 4", FALSE);
        t.due("line 1 0 4", FALSE);
        t.due("cut 0 1 false", TRUE);
        t.due("price 0 1", 5);
        t.due("line 2 1 4", TRUE);
        t.due("count 1", 2);
        t.fresh();
        for (int h = 0; h < 6; h++) {
            t.due("host 1 0", h);
        }
        for (int again = 0; again < 2; again++) {
            for (int a = 0; a < 6; a++) {
                for (int b = 0; b < a; b++) {
                    t.due("line " + a + " " + b + " 3", again == 0 ? TRUE : FALSE);
                }
            }
        }
        t.due("count 1", 15);

        t.words("each with a PRICE (1 to 50)");
        t.go("host 1 0", "host 1 0", "host 1 0");
        t.due("line 0 1 -1", FALSE);
        t.due("line 0 1 0", FALSE);
        t.due("line 0 1 51", FALSE);
        t.due("count 1", 0);
        t.due("line 0 1 1", TRUE);
        t.due("line 1 2 50", TRUE);
        t.due("price 0 1", 1);
        t.due("price 1 2", 50);
        t.due("price 0 2", 51);

        t.words("CUT or not");
        t.chain(7, 0, 0);
        t.due("price 0 1", 7);
        t.due("cut 0 1 false", TRUE);
        t.due("price 0 1", 7);
        t.dues("cut 0 1 true", TRUE, TRUE);
        t.due("price 0 1", NONE);
        t.dues("cut 1 0 false", TRUE, TRUE);
        t.due("price 0 1", 7);
    }

    private void prices() {
        for (int direct = 19; direct <= 21; direct++) {
            t.words("the least sum of PRICES of LINES that are not CUT");
            t.chain(10, 0, 0, 0);
            t.due("line 0 2 " + direct, TRUE);
            t.due("price 0 2", Math.min(direct, 20));
            t.due("cut 0 2 true", TRUE);
            t.due("price 0 2", 20);
            t.due("cut 0 2 false", TRUE);
            t.due("cut 0 1 true", TRUE);
            t.due("price 0 2", direct);
            t.due("price 0 1", direct + 10);
        }
        t.fresh();
        t.chain(50, 0, 0, 0, 0, 0, 0);
        t.due("price 0 5", 250);
        t.due("price 5 0", 250);
        t.due("line 0 5 50", TRUE);
        t.due("price 0 5", 50);
        t.due("price 0 4", 100);

        t.words("by HOSTS that are UP (the two themselves, too)");
        t.chain(3, 0, 0, 0);
        t.go("fall 1");
        t.due("price 0 2", NONE);
        t.due("price 0 1", NONE);
        t.due("price 1 2", NONE);
        t.go("rise 1");
        t.due("price 0 2", 6);
        t.go("fall 2");
        t.due("price 0 2", NONE);
        t.due("price 0 1", 3);

        t.words("0 to itself; without such a way (so also from or to one that isn't UP) it is not REACHED");
        t.go("host 1 0", "host 1 0");
        t.due("price 0 0", 0);
        t.due("price 1 1", 0);
        t.due("price 0 1", NONE);
        t.go("fall 1");
        t.due("price 1 1", NONE);
        t.due("price 1 0", NONE);
        t.due("price 0 0", 0);
    }

    /** The line of 2 between 0 and 1 is cut: it is 7 by host 2, and that is paid everywhere. */
    private void aroundACut(int size, int least) {
        t.fresh();
        t.go("host 200 0", "host 200 0", "host 200 0", "line 0 1 2", "line 0 2 3", "line 1 2 4", "cut 0 1 true");
        t.due("price 0 1", 7);
        t.due("thing " + size + " " + least + " 0", 0);
    }

    private void pricesRoundACut() {
        t.words("the least sum of PRICES of LINES that are not CUT");
        aroundACut(2, 1);
        t.due("ask 1 0", 7);
        t.due("about 0 1", 0);
        t.due("ask 1 0", 7);
        t.due("about 0 1", 2);
        t.due("cost 0 2", 14);
        t.due("tick 2", 1);
        t.due("ask 1 0", 0);
        t.due("credit 1 0", 21);
        t.due("write 0 0", 7);
        t.due("credit 1 0", 14);
        aroundACut(1, 1);
        t.go("ask 2 0", "tick 1");
        t.due("about 0 0", 5);
        t.due("nearest 1 0", 2);
        aroundACut(1, 2);
        t.go("tick 1");
        t.due("about 0 1", 4);
    }

    private void things() {
        t.words("THINGS (at most 8, numbered as they come)");
        t.chain(1, 0, 0);
        t.due("thing 0 1 0", NONE);
        for (int i = 0; i < 8; i++) {
            t.due("thing 1 1 " + i % 2, i);
        }
        t.due("thing 1 1 0", NONE);
        t.due("count 2", 8);
        t.due("hostOf 0 3", 196);
        t.due("fall 1", 4);
        t.go("rise 1");
        t.due("thing 1 1 1", NONE);
        t.due("about 7 6", 1);
        t.due("about 8 6", NONE);

        t.words("a SIZE (1 to 20)");
        t.go("host 200 0");
        t.due("thing -1 1 0", NONE);
        t.due("thing 0 1 0", NONE);
        t.due("thing 21 1 0", NONE);
        t.due("thing 1 1 0", 0);
        t.due("thing 20 1 0", 1);
        t.due("about 0 3", 1);
        t.due("about 1 3", 20);
        t.due("hostOf 0 3", 179);

        t.words("LEAST (1 to 3)");
        t.go("host 200 0");
        t.due("thing 1 -1 0", NONE);
        t.due("thing 1 0 0", NONE);
        t.due("thing 1 4 0", NONE);
        t.due("thing 1 1 0", 0);
        t.due("thing 1 3 0", 1);
        t.due("about 0 4", 1);
        t.due("about 1 4", 3);

        t.words("a VERSION (0 at first)");
        t.chain(1, 0, 0);
        t.go("thing 1 1 0");
        t.due("about 0 5", 0);
        t.go("ask 1 0");
        t.due("about 0 5", 0);
        t.go("write 1 0");
        t.due("about 0 5", 1);

        t.words("On each HOST a THING has a COPY that is WHOLE, or one that is COMING, or none. "
            + "COPIES of both sorts take SIZE of the ROOM.");
        t.go("host 20 0", "host 20 0", "line 0 1 1", "thing 20 1 0", "thing 2 1 1");
        t.due("hostOf 0 3", 0);
        t.due("hostOf 1 3", 18);
        t.times(20, "ask 1 0");
        t.due("about 0 1", 0);
        t.fresh();
        t.go("host 20 0", "host 20 0", "line 0 1 1", "thing 20 1 0");
        t.times(20, "ask 1 0");
        t.due("about 0 1", 2);
        t.due("hostOf 1 3", 0);
        t.due("thing 1 1 1", NONE);
        t.due("tick 20", 1);
        t.due("hostOf 1 3", 0);
        t.due("thing 1 1 1", NONE);
        t.due("fall 1", 1);
        t.due("hostOf 1 3", 20);

        t.words("A TICK is a number, 0 at first.");
        t.due("count 3", 0);
        t.go("tick 1");
        t.due("count 3", 1);
    }

    private void credit() {
        t.words("CREDIT of a HOST for a THING: 0 to 5000 (what would come above counts as 5000), 0 at first");
        hostWithoutRoomAt250();
        t.due("credit 5 0", 0);
        t.times(19, "ask 5 0");
        t.due("credit 5 0", 4750);
        t.go("ask 5 0");
        t.due("credit 5 0", 5000);
        t.go("ask 5 0");
        t.due("credit 5 0", 5000);

        t.fresh();
        hostWithoutRoomAt250();
        t.times(10, "ask 5 0");
        t.due("line 0 5 49", TRUE);
        t.times(51, "ask 5 0");
        t.due("credit 5 0", 4999);
        t.go("ask 5 0");
        t.due("credit 5 0", 5000);

        // By a copy of its own, too: 20 times 250 is what the dearest copy costs.
        t.fresh();
        t.chain(50, 0, 0, 0, 0, 0, 0);
        t.go("thing 20 1 0");
        t.times(19, "ask 5 0");
        t.due("about 0 1", 0);
        t.go("ask 5 0");
        t.due("about 0 1", 32);
        t.due("tick 20", 1);
        t.due("credit 5 0", 5000);
        t.due("ask 5 0", 0);
        t.due("credit 5 0", 5000);
        t.go("pin 0 0 true");
        t.due("write 4 0", 250);
        t.due("credit 5 0", 4950);
        t.due("ask 5 0", 0);
        t.due("credit 5 0", 5000);
    }

    /** Host 5 is 250 from host 0, on which thing 0 of size 20 is. */
    private void hostWithoutRoomAt250() {
        t.chain(50, 0, 0, 0, 0, 0);
        t.go("host 0 0", "line 4 5 50", "thing 20 1 0");
        t.due("price 0 5", 250);
    }

    private void nearest() {
        t.words("the WHOLE COPY with the least PRICE from that HOST, of several that on the least HOST "
            + "(of those REACHED)");
        t.go("host 200 0", "host 200 0", "host 200 0", "host 200 0");
        t.go("line 2 0 5", "line 2 1 5", "line 2 3 4");
        t.go("thing 1 1 0", "ask 1 0", "ask 3 0");
        t.due("nearest 2 0", 0);
        t.due("tick 1", 2);
        t.due("about 0 0", 11);
        t.due("nearest 2 0", 3);
        t.go("cut 2 3 true");
        t.due("nearest 2 0", 0);
        t.go("cut 2 0 true");
        t.due("nearest 2 0", 1);
        t.go("fall 1");
        t.due("nearest 2 0", NONE);
        t.due("nearest 0 0", 0);
        t.due("nearest 1 0", NONE);
    }

    private void mayGo() {
        // With one more than LEAST one goes, with LEAST none: for each LEAST.
        t.words("more than LEAST ones of the THING are WHOLE");
        t.chain(1, 0, 1, 2, 3, 3);
        t.go("thing 1 1 0", "ask 1 0", "tick 1");
        t.due("about 0 0", 3);
        t.due("write 4 0", 7);
        t.due("about 0 0", 2);
        t.due("write 4 0", 3);
        t.due("about 0 0", 2);
        t.fresh();
        t.chain(1, 0, 1, 2, 3, 3);
        t.go("thing 1 2 0", "tick 2");
        t.due("write 4 0", 7);
        t.due("about 0 0", 3);
        t.go("ask 2 0", "tick 1");
        t.due("about 0 0", 7);
        t.due("write 4 0", 9);
        t.due("about 0 0", 6);
        t.fresh();
        t.chain(1, 0, 1, 2, 3, 3);
        t.go("thing 1 3 0", "tick 3");
        t.due("write 4 0", 9);
        t.due("about 0 0", 7);
        t.go("ask 3 0", "tick 1");
        t.due("about 0 0", 15);
        t.due("write 4 0", 10);
        t.due("about 0 0", 14);
        t.due("count 9", 1);

        t.words("if it is not PINNED");
        t.chain(1, 0, 1, 2);
        t.go("thing 1 1 0", "ask 1 0", "tick 1", "pin 0 0 true");
        t.due("write 2 0", 3);
        t.due("about 0 0", 1);
        t.fresh();
        t.chain(1, 0, 1, 2);
        t.go("thing 1 1 0", "ask 1 0", "tick 1", "pin 0 0 true", "pin 0 1 true");
        t.due("write 2 0", 3);
        t.due("about 0 0", 3);
        t.go("pin 0 0 false");
        t.due("write 2 0", 3);
        t.due("about 0 0", 2);
    }

    private void mayGoByRacks() {
        // Just LEAST racks without it, one more with it: it goes.
        t.words("those others stand in LEAST RACKS or more, or in as many as with it");
        t.chain(1, 0, 1, 2, 2);
        t.go("thing 1 2 0", "tick 2", "ask 2 0", "tick 1");
        t.due("about 0 0", 7);
        t.due("write 3 0", 6);
        t.due("about 0 0", 6);
        // One rack fewer than LEAST without it, LEAST with it: it stays, the next one goes.
        t.fresh();
        t.chain(1, 0, 1, 1, 1);
        t.go("thing 1 2 0", "tick 2", "ask 2 0", "tick 1");
        t.due("about 0 0", 7);
        t.due("write 3 0", 6);
        t.due("about 0 0", 5);
        // Fewer than LEAST both with it and without it, but as many: it goes.
        t.fresh();
        t.chain(1, 0, 0, 1, 1);
        t.go("host 0 2", "line 3 4 1", "thing 1 3 0", "tick 3", "ask 3 0", "tick 1");
        t.due("about 0 0", 15);
        t.due("write 4 0", 10);
        t.due("about 0 0", 14);
        // Fewer than LEAST with it, one less without it: it stays, the next one goes.
        t.fresh();
        t.chain(1, 0, 1, 1, 1);
        t.go("host 0 2", "line 3 4 1", "thing 1 3 0", "tick 3", "ask 3 0", "tick 1");
        t.due("about 0 0", 15);
        t.due("write 4 0", 10);
        t.due("about 0 0", 13);
        // The same racks, when it would have to make room.
        for (int rack = 1; rack <= 2; rack++) {
            t.fresh();
            t.go("host 1 0", "host 200 1", "host 200 " + rack, "line 0 1 1", "line 1 2 1");
            t.go("thing 1 2 1", "tick 2", "ask 2 0", "tick 1");
            t.due("about 0 0", 7);
            t.go("thing 1 1 1", "ask 0 1");
            t.due("about 1 1", rack == 2 ? 1 : 0);
            t.due("about 0 0", rack == 2 ? 6 : 7);
        }
    }

    private void made() {
        t.words("A COPY is MADE on a HOST (UP, without one of it, REACHED from a WHOLE one, "
            + "fewer than two of the THING are COMING)");
        t.star(1, 4);
        t.go("thing 3 1 0", "thing 3 1 0");
        t.times(3, "ask 1 0");
        t.due("about 0 1", 2);
        t.times(3, "ask 2 0");
        t.due("about 0 1", 6);
        t.times(3, "ask 3 0");
        t.due("about 0 1", 6);
        t.due("credit 3 0", 3);
        t.times(3, "ask 3 1");
        t.due("about 1 1", 8);
        t.go("fall 1", "ask 3 0");
        t.due("about 0 1", 12);
        t.due("count 6", 4);

        t.words("it is COMING from the NEAREST one, for SIZE TICKS; it costs SIZE times the PRICE");
        t.chain(1, 0, 0);
        t.go("thing 1 1 0", "ask 1 0");
        t.due("coming 0 1 0", 0);
        t.due("coming 0 1 1", 1);
        t.due("cost 0 2", 1);
        t.due("tick 1", 1);
        t.fresh();
        t.chain(50, 0, 0, 0, 0, 0, 0);
        t.go("thing 20 1 5");
        t.times(20, "ask 0 0");
        t.due("coming 0 0 0", 5);
        t.due("coming 0 0 1", 20);
        t.due("cost 0 2", 5000);
        t.due("tick 19", 0);
        t.due("coming 0 0 1", 1);
        t.due("tick 1", 1);
        t.due("about 0 0", 33);
    }

    private void askOfOwnCopy() {
        t.words("CREDIT of it grows by the PRICE to the NEAREST one of the others (none REACHED: by nothing)");
        t.chain(4, 0, 0);
        t.go("thing 1 1 0");
        t.due("ask 0 0", 0);
        t.due("credit 0 0", 0);
        t.go("ask 1 0");
        t.due("ask 0 0", 0);
        t.due("credit 0 0", 0);
        t.due("tick 1", 1);
        t.due("ask 0 0", 0);
        t.due("credit 0 0", 4);
        t.go("cut 0 1 true");
        t.due("ask 0 0", 0);
        t.due("credit 0 0", 4);
        t.due("cost 0 0", 4);
    }

    private void askComesToACopy() {
        t.words("if it is then SIZE times the PRICE or more");
        // Just as much: 5 and 5 for 2 times 5.
        t.chain(5, 0, 0);
        t.go("thing 2 1 0");
        t.due("ask 1 0", 5);
        t.due("about 0 1", 0);
        t.due("ask 1 0", 5);
        t.due("about 0 1", 2);
        // One less: 4 and 5.
        t.fresh();
        t.go("host 9 0", "host 9 0", "host 9 0", "line 0 1 5", "line 0 2 2", "line 2 1 2", "thing 2 1 0");
        t.due("ask 1 0", 4);
        t.go("cut 2 1 true");
        t.due("ask 1 0", 5);
        t.due("credit 1 0", 9);
        t.due("about 0 1", 0);
        t.due("ask 1 0", 5);
        t.due("about 0 1", 2);
        // One more: 6 and 5.
        t.fresh();
        t.go("host 9 0", "host 9 0", "host 9 0", "line 0 1 6", "line 0 2 2", "line 2 1 3", "thing 2 1 0");
        t.go("cut 2 1 true");
        t.due("ask 1 0", 6);
        t.go("cut 2 1 false");
        t.due("ask 1 0", 5);
        t.due("credit 1 0", 11);
        t.due("about 0 1", 2);

        t.words("and none of it is COMING there");
        t.chain(5, 0, 0);
        t.go("thing 2 1 0");
        t.times(4, "ask 1 0");
        t.due("credit 1 0", 20);
        t.due("count 6", 1);
        t.due("coming 0 1 1", 2);
        t.due("cost 0 2", 10);
        t.due("hostOf 1 3", 198);
    }

    /** Thing 0 (size 2, credit 2) is whole on host 1 of that room; things 1 is on host 0 with that size. */
    private void oneThingOn(int room, int size) {
        t.fresh();
        t.go("host 200 0", "host " + room + " 0", "line 0 1 1", "thing 2 1 0", "ask 1 0", "ask 1 0");
        t.due("tick 2", 1);
        t.due("credit 1 0", 2);
        t.due("thing " + size + " 1 0", 1);
    }

    private void askFindsRoom() {
        t.words("if not enough is free, WHOLE COPIES of other THINGS on it that MAY GO and have less CREDIT "
            + "(each by its HOST's CREDIT for it) go");
        oneThingOn(5, 3);
        t.times(3, "ask 1 1");
        t.due("about 1 1", 2);
        t.due("about 0 0", 3);
        t.due("hostOf 1 3", 0);
        oneThingOn(4, 3);
        t.times(3, "ask 1 1");
        t.due("about 1 1", 2);
        t.due("about 0 0", 1);
        t.due("hostOf 1 3", 1);
        t.due("count 8", 1);
        // Just as much credit stays.
        oneThingOn(2, 2);
        t.times(2, "ask 1 1");
        t.due("credit 1 1", 2);
        t.due("about 1 1", 0);
        t.due("about 0 0", 3);
        t.go("ask 1 1");
        t.due("about 1 1", 2);
        t.due("about 0 0", 1);
        // The dearest of all: 4999 goes for 5000.
        t.fresh();
        t.chain(50, 0, 0, 0, 0, 0);
        t.go("host 20 0", "line 4 5 1", "thing 20 1 0", "thing 20 1 0", "pin 0 0 true");
        t.times(20, "ask 5 0");
        t.due("tick 20", 1);
        t.times(5, "ask 5 0");
        t.due("write 4 0", 201);
        t.due("credit 5 0", 4999);
        t.times(24, "ask 5 1");
        t.due("credit 5 1", 4824);
        t.due("about 1 1", 0);
        t.go("ask 5 1");
        t.due("credit 5 1", 5000);
        t.due("about 1 1", 32);
        t.due("about 0 0", 1);
        // A host's own credit for it counts, not another's.
        oneThingOn(2, 2);
        t.times(3, "ask 0 0");
        t.due("credit 0 0", 3);
        t.times(3, "ask 1 1");
        t.due("about 0 0", 1);

        t.words("WHOLE COPIES of other THINGS on it that MAY GO");
        // Thing 0 is whole on 0 and 2 and coming on 1: that one does not go, though it has less credit.
        t.go("host 200 0", "host 2 0", "host 200 0", "line 0 1 1", "line 0 2 1", "thing 2 1 0");
        t.go("ask 2 0", "ask 2 0", "tick 2", "ask 1 0", "ask 1 0", "thing 2 1 0");
        t.due("about 0 0", 5);
        t.due("about 0 1", 2);
        t.times(5, "ask 1 1");
        t.due("about 0 1", 2);
        t.due("about 1 1", 0);
        t.due("count 8", 0);
        // Thing 0 is whole elsewhere alone, thing 1 may not go: one is free where two are needed.
        t.fresh();
        t.go("host 200 0", "host 2 0", "host 200 0", "line 0 1 1", "line 0 2 1", "thing 2 1 0", "thing 1 1 1");
        t.go("ask 2 0", "ask 2 0", "tick 2", "thing 2 1 0");
        t.due("about 0 0", 5);
        t.times(5, "ask 1 2");
        t.due("about 2 1", 0);
        t.due("about 1 0", 2);
        t.due("hostOf 1 3", 1);
        t.due("count 8", 0);

        t.words("a COPY is MADE there, if that can be, and there is ROOM");
        // Two of thing 1 are coming: thing 0 does not go for a third that can't be made.
        t.star(1, 3);
        t.go("host 2 0", "line 0 3 1", "thing 2 1 0", "ask 3 0", "ask 3 0", "tick 2", "thing 2 1 0");
        t.go("ask 1 1", "ask 1 1", "ask 2 1", "ask 2 1");
        t.due("about 1 1", 6);
        t.times(4, "ask 3 1");
        t.due("about 1 1", 6);
        t.due("about 0 0", 9);
        t.due("count 8", 0);
        t.go("tick 2", "ask 3 1");
        t.due("about 1 1", 8);
        t.due("about 0 0", 1);
        t.due("count 8", 1);

        t.words("by the least CREDIT first, of like ones the least THING, till it is");
        t.go("host 200 0", "host 6 0", "line 0 1 1");
        for (int i = 0; i < 3; i++) {
            t.go("thing 2 1 0", "ask 1 " + i, "ask 1 " + i);
        }
        t.due("tick 2", 3);
        t.go("ask 1 0");
        t.due("thing 4 1 0", 3);
        t.times(4, "ask 1 3");
        t.due("about 3 1", 2);
        t.due("about 0 0", 3);
        t.due("about 1 0", 1);
        t.due("about 2 0", 1);
        t.fresh();
        t.go("host 200 0", "host 4 0", "line 0 1 1");
        for (int i = 0; i < 2; i++) {
            t.go("thing 2 1 0", "ask 1 " + i, "ask 1 " + i);
        }
        t.go("tick 2", "thing 2 1 0");
        t.times(3, "ask 1 2");
        t.due("about 2 1", 2);
        t.due("about 0 0", 1);
        t.due("about 1 0", 3);
        t.due("count 8", 1);

        t.words("(Each that goes has CREDIT 0 then.)");
        oneThingOn(2, 2);
        t.times(3, "ask 1 1");
        t.due("credit 1 0", 0);
        t.due("credit 1 1", 3);
    }

    private void askNotEnoughRoom() {
        for (int size = 6; size <= 7; size++) {
            t.words("but if all of them are not enough, none goes and none is MADE");
            t.go("host 200 0", "host 6 0", "line 0 1 1");
            for (int i = 0; i < 2; i++) {
                t.go("thing 2 1 0", "ask 1 " + i, "ask 1 " + i);
            }
            t.due("tick 2", 2);
            t.due("hostOf 1 3", 2);
            t.due("thing " + size + " 1 0", 2);
            t.times(size, "ask 1 2");
            boolean isEnough = size == 6;
            t.due("about 2 1", isEnough ? 2 : 0);
            t.due("about 0 0", isEnough ? 1 : 3);
            t.due("about 1 0", isEnough ? 1 : 3);
            t.due("credit 1 0", isEnough ? 0 : 2);
            t.due("credit 1 2", size);
            t.due("count 8", isEnough ? 2 : 0);
            t.due("count 6", isEnough ? 3 : 2);
            t.due("cost 2 2", isEnough ? 6 : 0);
            t.due("hostOf 1 3", isEnough ? 0 : 2);
        }
    }

    private void writeMajority() {
        for (int hosts = 1; hosts <= 6; hosts++) {
            for (int reached = 1; reached < 1 << hosts; reached++) {
                writeWithin(hosts, reached, false);
                writeWithin(hosts, reached, true);
            }
        }
    }

    /** Those reached are joined by lines; the others are alone, or have fallen. */
    private void writeWithin(int hosts, int reached, boolean fallen) {
        t.words("more than half of all HOSTS, or just half with HOST 0 among them");
        for (int h = 0; h < hosts; h++) {
            t.due("host 200 0", h);
        }
        int writer = Integer.numberOfTrailingZeros(Integer.highestOneBit(reached));
        for (int h = 0; h < hosts; h++) {
            boolean isIn = (reached >> h & 1) == 1;
            if (h != writer && (isIn || fallen)) {
                t.due("line " + h + " " + writer + " 2", TRUE);
            }
            if (!isIn && fallen) {
                t.due("fall " + h, 0);
            }
        }
        t.due("thing 1 1 " + writer, 0);
        int twice = 2 * Integer.bitCount(reached);
        boolean isEnough = twice > hosts || twice == hosts && reached % 2 == 1;
        t.due("hostOf " + writer + " 4", twice / 2);
        t.due("write " + writer + " 0", isEnough ? 0 : -2);
        t.due("about 0 5", isEnough ? 1 : 0);
        t.due("about 0 7", isEnough ? 1 : 0);
    }

    private void writeNeedsACopy() {
        t.words("and a WHOLE COPY is REACHED");
        t.chain(2, 0, 0, 0);
        t.go("thing 1 1 2");
        t.due("write 0 0", 4);
        t.go("cut 1 2 true");
        t.due("write 0 0", -3);
        t.go("cut 1 2 false", "ask 1 0");
        t.due("about 0 1", 2);
        t.go("cut 1 2 true");
        t.due("write 0 0", -3);
        t.due("write 1 0", -3);
        t.due("about 0 5", 1);
        t.go("fall 2");
        t.due("write 0 0", -3);
        t.due("tick 1", 0);
        t.due("about 0 1", 0);
    }

    private void writeUnreached() {
        t.words("The WHOLE COPIES not REACHED are gone (CREDIT 0).");
        t.chain(1, 0, 0, 0, 0);
        t.go("thing 2 3 3", "pin 0 3 true", "tick 1");
        t.due("about 0 1", 4);
        t.go("ask 2 0", "ask 2 0", "tick 2", "tick 2");
        t.due("about 0 0", 14);
        t.times(5, "ask 3 0");
        t.due("credit 3 0", 5);
        t.go("ask 0 0", "ask 0 0");
        t.due("about 0 1", 1);
        // Hosts 0 to 2 are three of four; the copy on host 3 goes, pinned and needed as it is.
        t.go("cut 2 3 true");
        t.due("write 1 0", 1);
        t.due("about 0 0", 6);
        t.due("credit 3 0", 0);
        t.due("about 0 2", 8);
        t.due("count 9", 1);
        t.due("about 0 1", 1);
        // One that is coming beyond the cut stays till a tick looks at it.
        t.go("cut 0 1 true", "cut 2 3 false");
        t.due("write 2 0", 1);
        t.due("about 0 1", 1);
        t.due("count 9", 1);
        t.due("tick 1", 0);
        t.due("coming 0 0 0", NONE);
        // Host 0 alone is beyond the cut, then the last host alone.
        for (int alone = 0; alone <= 2; alone += 2) {
            t.fresh();
            t.chain(1, 0, 0, 0);
            t.go("thing 1 3 0", "tick 3", "cut " + alone + " 1 true");
            t.due("about 0 0", 7);
            t.due("write 1 0", 1);
            t.due("about 0 0", alone == 0 ? 6 : 3);
            t.due("count 9", 1);
        }
    }

    private void writeCredit() {
        // The credit is 5; the price from host 2 is one less, the same, one more.
        for (int price = 4; price <= 6; price++) {
            t.words("from CREDIT of each its PRICE goes (not below 0)");
            t.chain(5, 0, 0);
            t.go("host 200 0", "line 1 2 " + price, "thing 1 1 0", "ask 1 0", "tick 1", "pin 0 0 true");
            t.due("credit 1 0", 5);
            t.due("write 2 0", 5 + 2 * price);
            t.due("credit 1 0", price == 4 ? 1 : 0);
            t.due("about 0 0", price == 4 ? 3 : 1);
            t.fresh();
            t.chain(5, 0, 0);
            t.go("host 200 0", "line 1 2 " + price, "thing 1 1 0", "ask 1 0", "tick 1");
            t.go("pin 0 0 true", "pin 0 1 true");
            t.due("write 2 0", 5 + 2 * price);
            t.due("credit 1 0", price == 4 ? 1 : 0);
            t.due("about 0 0", 3);
            t.due("credit 0 0", 0);
        }
        // A credit without a copy there is left alone.
        t.fresh();
        t.chain(5, 0, 0);
        t.go("thing 9 1 0", "ask 1 0");
        t.due("write 0 0", 0);
        t.due("credit 1 0", 5);
    }

    private void writeByHosts() {
        t.words("by HOSTS, those with CREDIT 0 that MAY GO as it is then go, but the one on the HOST itself");
        t.star(1, 4);
        t.go("thing 1 1 0", "ask 1 0", "ask 2 0", "tick 1");
        t.due("about 0 0", 7);
        // From host 3, which has none: 0 and 1 go, 2 is the last one.
        t.due("write 3 0", 5);
        t.due("about 0 0", 4);
        t.due("count 9", 2);
        t.fresh();
        t.star(1, 4);
        t.go("thing 1 1 0", "ask 1 0", "ask 2 0", "tick 1");
        // From host 0: its own stays with credit 0, the two others go.
        t.due("write 0 0", 2);
        t.due("about 0 0", 1);
        t.due("credit 0 0", 0);
        t.fresh();
        t.star(1, 4);
        t.go("thing 1 1 0", "ask 1 0", "ask 2 0", "ask 2 0", "ask 2 0", "tick 1", "ask 1 0", "ask 1 0");
        t.due("credit 1 0", 3);
        t.due("credit 2 0", 3);
        // Host 0 with credit 0 goes; 1 for each of the two that have credit.
        t.due("write 1 0", 3);
        t.due("about 0 0", 6);
        t.due("credit 1 0", 3);
        t.due("credit 2 0", 1);
    }

    private void fallAndRise() {
        t.words("A HOST FALLS: it is not UP; its COPIES are gone, its CREDITS 0. It RISES: UP.");
        t.star(3, 2);
        for (int i = 0; i < 8; i++) {
            t.due("thing 2 1 " + i % 2, i);
        }
        // Four are whole on host 1, one is coming, for another one there is credit alone.
        t.go("ask 1 0", "ask 1 0", "ask 1 2", "pin 0 1 true");
        t.due("about 0 1", 2);
        t.due("fall 1", 5);
        t.due("hostOf 1 2", 0);
        t.due("credit 1 0", 0);
        t.due("credit 1 2", 0);
        t.due("about 0 1", 0);
        t.due("about 1 0", 0);
        t.due("about 0 2", 2);
        t.due("hostOf 1 3", 200);
        t.due("count 4", 4);
        t.due("count 5", 0);
        t.due("rise 1", TRUE);
        t.due("hostOf 1 2", 1);
        t.due("about 1 0", 0);
        t.due("fall 1", 0);
        t.fresh();
        t.go("host 200 0");
        for (int i = 0; i < 8; i++) {
            t.go("thing 1 1 0");
        }
        t.due("fall 0", 8);
        t.due("count 4", 0);
    }

    private void tickComing() {
        t.words("if the COPY from which it comes is not WHOLE, or not REACHED from it, it is gone; "
            + "else one of its TICKS has gone, with the last one it is WHOLE");
        t.chain(1, 0, 0);
        t.go("thing 2 1 0", "ask 1 0", "ask 1 0");
        t.due("tick 1", 0);
        t.due("coming 0 1 1", 1);
        t.due("tick 1", 1);
        t.due("about 0 0", 3);
        // Cut ahead of the last tick.
        t.fresh();
        t.chain(1, 0, 0);
        t.go("thing 2 1 0", "ask 1 0", "ask 1 0", "tick 1", "cut 0 1 true");
        t.due("tick 1", 0);
        t.due("about 0 1", 0);
        t.due("about 0 0", 1);
        t.due("credit 1 0", 2);
        // The source has gone and is coming again itself: it is not whole.
        t.fresh();
        t.chain(1, 0, 0, 0);
        t.go("thing 2 1 0", "ask 1 0", "ask 1 0", "tick 2", "ask 2 0", "ask 2 0");
        t.due("coming 0 2 0", 1);
        t.go("write 0 0", "write 0 0");
        t.due("about 0 0", 1);
        t.go("ask 1 0", "ask 1 0");
        t.due("about 0 1", 6);
        t.due("tick 1", 0);
        t.due("about 0 1", 2);
        t.due("coming 0 1 1", 1);
        // The source falls and rises again: its copy is not whole.
        t.fresh();
        t.star(1, 3);
        t.go("thing 1 1 0", "ask 1 0", "tick 1", "thing 2 1 1", "ask 2 1", "ask 2 1");
        t.due("coming 1 2 0", 1);
        t.go("fall 1", "rise 1");
        t.due("about 1 1", 4);
        t.due("tick 1", 0);
        t.due("about 1 1", 0);
        t.due("about 1 0", 0);
    }

    private void tickLeast() {
        t.words("if fewer than LEAST are WHOLE or COMING together, and one is WHOLE");
        for (int least = 1; least <= 3; least++) {
            t.fresh();
            t.star(1, 5);
            t.go("thing 20 " + least + " 0");
            for (int made = 1; made < least; made++) {
                t.due("tick 1", 0);
                t.due("count 6", made);
            }
            t.dues("tick 1", 0, 0);
            t.due("count 6", least - 1);
            t.due("count 5", least - 1);
        }
        t.fresh();
        t.star(1, 3);
        t.go("thing 2 3 0", "fall 0");
        t.due("tick 200", 0);
        t.due("count 6", 0);
        t.go("rise 0");
        t.due("tick 200", 0);
        t.due("about 0 0", 0);

        t.words("a COPY is MADE on a HOST where that can be and SIZE is free");
        for (int room = 4; room <= 5; room++) {
            t.fresh();
            t.go("host 200 0", "host " + room + " 0", "line 0 1 1", "thing 5 2 0", "tick 1");
            t.due("about 0 1", room == 5 ? 2 : 0);
        }
        // Nothing gives way for it.
        t.fresh();
        t.go("host 200 0", "host 5 0", "line 0 1 1", "thing 1 1 0", "ask 1 0", "tick 1");
        t.go("thing 5 2 0", "ask 1 1", "ask 1 1");
        t.due("tick 1", 0);
        t.due("about 1 1", 0);
        t.due("about 0 0", 3);
        // Of several things the least one takes the room.
        t.fresh();
        t.go("host 200 0", "host 5 0", "line 0 1 1", "thing 5 2 0", "thing 5 2 0", "tick 1");
        t.due("about 0 1", 2);
        t.due("about 1 1", 0);
    }

    private void tickPlace() {
        t.words("of these first one in a RACK without any WHOLE or COMING one of it, then of the least PRICE, "
            + "then the least HOST");
        // Another rack at 50 comes ahead of the own one at 1.
        t.go("host 200 0", "host 200 0", "host 200 1", "line 0 1 1", "line 0 2 50", "thing 9 2 0", "tick 1");
        t.due("about 0 1", 4);
        // One less decides, of like ones the least host.
        t.fresh();
        t.go("host 200 0", "host 200 1", "host 200 2", "line 0 1 3", "line 0 2 2", "thing 9 2 0", "tick 1");
        t.due("about 0 1", 4);
        t.fresh();
        t.go("host 200 0", "host 200 1", "host 200 2", "line 0 1 3", "line 0 2 3", "thing 9 2 0", "tick 1");
        t.due("about 0 1", 2);
        // The rack of one that is coming is taken, too: host 1 (rack 1) comes, so not host 2.
        t.fresh();
        t.go("host 200 0", "host 200 1", "host 200 1", "host 200 2");
        t.go("line 0 1 1", "line 0 2 2", "line 0 3 9", "thing 9 3 0", "tick 2");
        t.due("about 0 1", 10);
        // All racks taken: the price decides.
        t.fresh();
        t.star(4, 3);
        t.go("line 1 2 1", "thing 9 2 1", "tick 1");
        t.due("about 0 1", 4);
    }

    private void log() {
        t.words("LOG of a THING: the first 60 of its ASKS that were answered and WRITES that were done, in order");
        t.chain(1, 0, 0, 0);
        t.go("thing 20 1 0", "thing 20 1 0");
        t.times(58, "ask 0 0");
        t.go("ask 1 0");
        t.due("about 0 7", 59);
        t.go("cut 0 1 true");
        t.due("ask 2 0", NONE);
        t.due("write 2 0", -3);
        t.due("write 0 0", -2);
        t.due("write 5 0", NONE);
        t.due("about 0 7", 59);
        t.due("log 0 59 0", NONE);
        t.go("cut 0 1 false");
        t.due("write 2 0", 2);
        t.due("about 0 7", 60);
        t.due("write 1 0", 1);
        t.due("ask 1 0", 1);
        t.due("about 0 7", 60);
        t.due("log 0 58 0", 1);
        t.due("log 0 58 1", 0);
        t.due("log 0 59 0", 2);
        t.due("log 0 59 1", 1);
        t.due("log 0 59 2", 2);
        t.due("log 0 60 0", NONE);
        t.due("cost 0 0", 2);
        t.due("cost 0 1", 3);
        t.due("about 0 5", 2);
        t.due("about 1 7", 0);
        t.due("ask 2 1", 2);
        t.due("about 1 7", 1);
        t.due("about 0 7", 60);
    }

    private void best() {
        t.words("no LINE CUT, all HOSTS UP, no ROOM, LEAST, PINS looked at");
        t.go("host 200 0", "host 0 0", "line 0 1 4", "thing 2 3 0", "pin 0 0 true");
        t.times(3, "ask 1 0");
        t.due("best 0", 8);
        t.due("bestAt 0 0", 2);
        t.go("cut 0 1 true", "fall 0", "fall 1");
        t.due("best 0", 8);
        t.due("bestAt 0 2", 2);
        t.fresh();
        t.chain(4, 0, 0, 0);
        t.go("thing 2 1 0", "ask 2 0", "ask 2 0", "ask 2 0", "cut 0 1 true");
        t.due("best 0", 16);
        t.due("bestAt 0 2", 4);
        t.fresh();
        t.chain(4, 0, 0, 0);
        t.go("thing 2 1 0", "ask 2 0", "ask 2 0", "ask 2 0", "fall 1", "fall 2", "fall 0");
        t.due("best 0", 16);
        t.due("bestAt 0 2", 4);

        t.words("a SET of HOSTS for each of the LOG, not empty");
        t.chain(7, 0, 0);
        t.go("thing 5 1 0", "write 1 0");
        t.due("best 0", 7);
        t.due("bestAt 0 0", 1);

        t.words("ahead of the first one it is the HOST alone on which the THING came");
        // The copy has moved to host 0, but a plan starts on host 1.
        t.chain(3, 0, 0);
        t.go("thing 1 1 1", "ask 0 0", "tick 1", "write 0 0");
        t.due("about 0 0", 1);
        t.due("best 0", 3);
        t.due("bestAt 0 0", 1);
        t.due("bestAt 0 1", 1);

        t.words("each HOST that is new costs SIZE times the least PRICE from one of the former SET; "
            + "what goes costs nothing");
        // Asks from 1 and 2 in turn, 6 and 7 from host 0, 1 from one another.
        t.go("host 200 0", "host 200 0", "host 200 0", "line 0 1 6", "line 1 2 1", "thing 2 1 0");
        for (int i = 0; i < 4; i++) {
            t.go("ask 1 0", "ask 2 0");
        }
        // Host 1 for 12, then either 1 for each ask from 2 or host 2 for 2 more.
        t.due("best 0", 14);
        t.due("bestAt 0 0", 2);
        t.due("bestAt 0 7", 4);

        t.words("An ASK costs the least PRICE to one of its SET, a WRITE the PRICES to all of its SET together.");
        // On 0, on 1 or on both: 10 in each of these plans.
        t.chain(5, 0, 0);
        t.go("thing 1 1 0", "ask 1 0", "write 0 0", "ask 1 0");
        t.due("best 0", 10);
        t.due("bestAt 0 0", 1);
        t.due("bestAt 0 1", 1);
        t.due("bestAt 0 2", 1);

        t.words("BEST is the least sum of all");
        t.chain(50, 0, 0, 0, 0, 0, 0);
        t.go("thing 20 1 0");
        t.times(19, "ask 5 0");
        // Nineteen asks cost less than the dearest copy, twenty just as much, more no more than it.
        t.due("best 0", 4750);
        t.due("bestAt 0 18", 1);
        t.go("ask 5 0");
        t.due("best 0", 5000);
        t.due("bestAt 0 19", 1);
        t.go("ask 5 0");
        t.due("best 0", 5000);
        t.due("bestAt 0 0", 32);
        t.times(39, "ask 5 0");
        t.due("about 0 7", 60);
        t.due("best 0", 5000);
        t.due("bestAt 0 59", 32);
    }

    private void bestOrder() {
        t.words("the first row (compared from the first on, the lesser number of bits first: bit 0 is HOST 0)");
        // An ask at home costs nothing with any set that holds it; the least one is it alone.
        t.chain(1, 0, 0);
        t.go("thing 1 1 1", "ask 1 0", "ask 1 0");
        t.due("best 0", 0);
        t.due("bestAt 0 0", 2);
        t.due("bestAt 0 1", 2);
        // Going far and a copy cost the same: the lesser number is the far one at home 0 ..
        t.fresh();
        t.chain(3, 0, 0);
        t.go("thing 1 1 0", "ask 1 0");
        t.due("best 0", 3);
        t.due("bestAt 0 0", 1);
        // .. and the copy where that has the lesser number.
        t.fresh();
        t.chain(3, 0, 0);
        t.go("thing 1 1 1", "ask 0 0");
        t.due("best 0", 3);
        t.due("bestAt 0 0", 1);
        // The first of the row decides: 1, 2 ahead of 2, 2, which costs the same.
        t.fresh();
        t.chain(3, 0, 0);
        t.go("thing 1 1 0", "ask 0 0", "ask 1 0", "ask 1 0");
        t.due("best 0", 3);
        t.due("bestAt 0 0", 1);
        t.due("bestAt 0 1", 2);
        t.due("bestAt 0 2", 2);
    }
}
