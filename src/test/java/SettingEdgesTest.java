/** The boundary cases of promises 1 to 5 and 8 to 10, sentence by sentence: what is set ahead of the MINUTES. */
public final class SettingEdgesTest {
    private static final int LEAST_INT = Integer.MIN_VALUE;
    private static final int MOST_INT = Integer.MAX_VALUE;

    public static void main(String[] args) {
        Due due = new Due();
        newObject(due);
        newObjectHasNone(due);
        feedOrder(due);
        feedFull(due);
        endWithin(due);
        endRefused(due);
        bridgeNumbers(due);
        bridgeAbove(due);
        bridgesFull(due);
        bridgeLate(due);
        tideBytes(due);
        tideLevels(due);
        tideRefused(due);
        tideLate(due);
        keeperNumbers(due);
        keeperRefused(due);
        legsWithin(due);
        legsLate(due);
        shipNumbers(due);
        shipsFull(due);
        shipWithoutBridge(due);
        shipAheadOfMinute(due);
        due.end();
    }

    private static void newObject(Due due) {
        due.sentence("No BRIDGES, SHIPS, KEEPERS; LEVELS 0; no bars, no trains; LEGS 5; MINUTE 0; an empty tape.");
        RiverBridges x = new RiverBridges();
        for (int what = 0; what <= 6; what++) {
            due.is("count(" + what + ")", x.count(what), 0);
        }
        for (int m : new int[] {0, 1, 59, 60, 719, 1439, 1440}) {
            due.is("level(" + m + ")", x.level(m), 0);
        }
        due.is("end(1)", x.end(1), false);
        due.is("timetable() of the empty tape", x.timetable(), 0);
        due.is("tide() of the empty tape", x.tide(), false);
        for (int b = 0; b < 8; b++) {
            due.is("MINUTE is 0: bridge", x.bridge(10, 1, 1, 1, 0, 1), b);
            for (int m : new int[] {0, 1, 2, 720, 1438, 1439, 1440}) {
                due.is("barred(" + b + ", " + m + ")", x.barred(b, m), 0);
            }
        }
        x.keeper(0);
        x.ship(11, false, 0);
        x.go(1);
        due.is("LEGS 5, seven BRIDGES farther", x.keeps(0, 2), 35);
    }

    private static void newObjectHasNone(Due due) {
        due.sentence("No BRIDGES, SHIPS, KEEPERS;");
        RiverBridges x = new RiverBridges();
        due.is("about(0, 0)", x.about(0, 0), -1);
        due.is("barred(0, 0)", x.barred(0, 0), -1);
        due.is("keeper(0)", x.keeper(0), -1);
        due.is("ship(0, true, 0)", x.ship(0, true, 0), -1);
        due.is("soonest(0, true, 0)", x.soonest(0, true, 0), -1);
        due.is("through(0, 0)", x.through(0, 0), -1);
        due.is("keeps(0, 0)", x.keeps(0, 0), -1);
        due.noneSuch(x, 0, 0);
    }

    private static void feedOrder(Due due) {
        due.sentence("Twenty bytes come behind the tape, of each number the highest first: how many it has;");
        RiverBridges x = new RiverBridges();
        due.is("feed to an empty tape", x.feed(0x64000102, 0x03040506, 0x0708090a, 0x0b0c0d0e, 0x0f101112), 20);
        due.is("feed behind it", x.feed(0x13141516, 0x64ffffff, LEAST_INT, MOST_INT, -1), 40);
        x.end(25);
        due.is("tide()", x.tide(), true);
        for (int hour = 0; hour <= 24; hour++) {
            due.is("the byte of hour " + hour, x.level(60 * hour), hour == 0 || hour == 24 ? 100 : hour - 1);
        }
        due.is("the least int's highest byte is 128", firstByteIsLevel(LEAST_INT), false);
        due.is("the highest byte of -1 is 255", firstByteIsLevel(-1), false);
        due.is("the most int's highest byte is 127", firstByteIsLevel(MOST_INT), false);
        due.is("a highest byte of 100", firstByteIsLevel(0x64000000), true);
    }

    private static boolean firstByteIsLevel(int number) {
        RiverBridges x = new RiverBridges();
        x.feed(0, 0, 0, 0, 0);
        x.feed(0, number, 0, 0, 0);
        x.end(25);
        return x.tide();
    }

    private static void feedFull(Due due) {
        due.sentence("NONE, and none come, if it would have more than 440.");
        for (int size : new int[] {419, 420, 421, 439, 440}) {
            RiverBridges x = new RiverBridges();
            Due.feedText(x, "bridge 0;" + " ".repeat(size - 9));
            boolean fits = size <= 420;
            due.is("feed behind " + size, x.feed(-1, -1, -1, -1, -1), fits ? size + 20 : -1);
            due.is("count(6) behind " + size, x.count(6), fits ? size + 20 : size);
            due.is("end(441)", x.end(441), false);
            due.is("the bytes of ahead are there", x.end(400), true);
            due.is("and are what they were", x.timetable(), 1);
        }
        RiverBridges x = new RiverBridges();
        for (int n = 20; n <= 440; n += 20) {
            due.is("feed up to " + n, x.feed(0, 0, 0, 0, 0), n);
        }
        due.is("feed to a full tape", x.feed(0, 0, 0, 0, 0), -1);
        due.is("and again", x.feed(0, 0, 0, 0, 0), -1);
        x.end(0);
        due.is("feed to an emptied tape", x.feed(0, 0, 0, 0, 0), 20);
    }

    private static void endWithin(Due due) {
        due.sentence("The tape has its first n bytes alone: true;");
        RiverBridges x = new RiverBridges();
        due.is("end(0) of an empty tape", x.end(0), true);
        x.feed(1, 2, 3, 4, 5);
        due.is("end(20) of 20", x.end(20), true);
        due.is("all are there", x.count(6), 20);
        due.is("end(19)", x.end(19), true);
        due.is("one is gone", x.count(6), 19);
        due.is("end(20) of 19: it does not come again", x.end(20), false);
        due.is("end(1)", x.end(1), true);
        due.is("the first one is there", x.count(6), 1);
        due.is("end(0)", x.end(0), true);
        due.is("none is there", x.count(6), 0);
        Due.feedText(x, "bridge 0;?");
        x.end(9);
        due.is("what was cut off is not read", x.timetable(), 1);
    }

    private static void endRefused(Due due) {
        due.sentence("false, if it has not so many, or n is below 0.");
        RiverBridges x = new RiverBridges();
        for (int size : new int[] {0, 20, 440}) {
            while (x.count(6) < size) {
                x.feed(0, 0, 0, 0, 0);
            }
            for (int n : new int[] {size + 1, MOST_INT, -1, LEAST_INT}) {
                due.is("end(" + n + ") of " + size, x.end(n), false);
                due.is("count(6) then", x.count(6), size);
            }
        }
    }

    private static int bridgeWith(int which, int value) {
        int[] n = {10, 1, 1, 1, 0, 1};
        n[which] = value;
        return new RiverBridges().bridge(n[0], n[1], n[2], n[3], n[4], n[5]);
    }

    private static void bounds(Due due, int which, int least, int most) {
        int[] fine = {least, least + 1, most - 1, most};
        int[] wrong = {least - 1, most + 1, LEAST_INT, MOST_INT, least + 65536, least - 65536, least + 256};
        for (int value : fine) {
            due.is("bridge, number " + which + " is " + value, bridgeWith(which, value), 0);
        }
        for (int value : wrong) {
            boolean isFine = value >= least && value <= most;
            due.is("bridge, number " + which + " is " + value, bridgeWith(which, value), isFine ? 0 : -1);
        }
    }

    private static void bridgeNumbers(Due due) {
        due.sentence("CLEAR (0 to 400 above nought)");
        bounds(due, 0, 0, 400);
        due.sentence("OPENS (1 to 9 MINUTES)");
        bounds(due, 1, 1, 9);
        due.sentence("SHUTS (1 to 9)");
        bounds(due, 2, 1, 9);
        due.sentence("WAY (1 to 60 MINUTES from it to the next one up)");
        bounds(due, 3, 1, 60);
        due.sentence("CARS (0 to 60 that come a MINUTE)");
        bounds(due, 4, 0, 60);
        due.sentence("FLOW (1 to 99 that may go over a MINUTE)");
        bounds(due, 5, 1, 99);
    }

    private static void bridgeAbove(Due due) {
        due.sentence("One more BRIDGE, above the others: its number;");
        RiverBridges x = new RiverBridges();
        due.is("the first", x.bridge(0, 1, 1, 60, 0, 1), 0);
        due.is("one that is refused", x.bridge(-1, 1, 1, 1, 0, 1), -1);
        due.is("the second", x.bridge(400, 1, 1, 60, 0, 1), 1);
        x.ship(400, false, 0);
        x.ship(0, true, 0);
        x.go(1);
        due.is("the second one is above: a SHIP down is at it first", x.through(0, 1), 0);
        due.is("the first one is below: a SHIP up is at it first", x.through(1, 0), 0);
    }

    private static void bridgesFull(Due due) {
        due.sentence("BRIDGES 0 .. 7, from the sea up:");
        RiverBridges all = new RiverBridges();
        for (int b = 0; b < 8; b++) {
            due.is("BRIDGE " + b, all.bridge(b == 7 ? 400 : 0, 1, 1, 1, 0, 1), b);
        }
        all.ship(400, false, 0);
        all.go(1);
        due.is("BRIDGE 7 is farthest from the sea", all.through(0, 7), 0);
        due.sentence("NONE: there are 8, a number is not as told, or MINUTE is not 0.");
        RiverBridges x = Due.river(7);
        due.is("the eighth", x.bridge(10, 1, 1, 1, 0, 1), 7);
        due.is("a ninth", x.bridge(10, 1, 1, 1, 0, 1), -1);
        due.is("count(1)", x.count(1), 8);
        due.is("about(7, 0)", x.about(7, 0), 0);
        due.is("about(8, 0)", x.about(8, 0), -1);
    }

    private static void bridgeLate(Due due) {
        due.sentence("NONE: there are 8, a number is not as told, or MINUTE is not 0.");
        RiverBridges x = Due.river(1);
        x.go(0);
        due.is("bridge behind go(0)", x.bridge(10, 1, 1, 1, 0, 1), 1);
        x.go(1);
        due.is("bridge in MINUTE 1", x.bridge(10, 1, 1, 1, 0, 1), -1);
        x.go(1440);
        due.is("bridge in MINUTE 1440", x.bridge(10, 1, 1, 1, 0, 1), -1);
        due.is("count(1)", x.count(1), 2);
    }

    private static boolean tideWith(int n, int where, int value) {
        byte[] bytes = new byte[n];
        if (where < n) {
            bytes[where] = (byte) value;
        }
        RiverBridges x = new RiverBridges();
        Due.feedBytes(x, bytes);
        return x.tide();
    }

    private static void tideBytes(Due due) {
        due.sentence("TIDE: LEVELS 0 to 100 at each full hour 0 to 24;");
        for (int hour = 0; hour <= 24; hour++) {
            due.is("100 in hour " + hour, tideWith(25, hour, 100), true);
            for (int value : new int[] {101, 127, 128, 200, 255}) {
                due.is(value + " in hour " + hour, tideWith(25, hour, value), false);
            }
        }
        for (int n : new int[] {0, 1, 20, 24, 26, 40, 50, 440}) {
            due.is("tide() of " + n + " bytes", tideWith(n, 0, 0), false);
        }
        due.is("26 bytes, the last of them too high", tideWith(26, 25, 101), false);
    }

    private static void tideLevels(Due due) {
        due.sentence("between two the LEVEL of the one ahead and the difference times MINUTES past by 60, cut towards nought.");
        RiverBridges x = new RiverBridges();
        Due.tide(x, 0, 100, 0, 1, 0, 99, 100);
        int[][] wanted = {
            {0, 0}, {1, 1}, {2, 3}, {59, 98}, {60, 100}, {61, 99}, {62, 97}, {119, 2}, {120, 0}, {121, 0}, {179, 0},
            {180, 1}, {181, 1}, {239, 1}, {240, 0}, {241, 1}, {299, 97}, {300, 99}, {359, 99}, {360, 100}, {419, 2}, {420, 0}
        };
        for (int[] want : wanted) {
            due.is("level(" + want[0] + ")", x.level(want[0]), want[1]);
        }
        byte[] last = new byte[25];
        last[23] = 100;
        last[24] = 40;
        Due.feedBytes(x, last);
        due.is("tide() anew", x.tide(), true);
        due.is("the older LEVELS are gone", x.level(60), 0);
        due.is("level(1379)", x.level(1379), 98);
        due.is("level(1380)", x.level(1380), 100);
        due.is("level(1381)", x.level(1381), 99);
        due.is("level(1439)", x.level(1439), 41);
        due.is("level(1440)", x.level(1440), 40);
    }

    private static void tideRefused(Due due) {
        due.sentence("LEVELS are the tape's 25 bytes (empty then, here and below): true; false, if they are not as told, or MINUTE is not 0.");
        RiverBridges x = new RiverBridges();
        due.is("tide()", Due.tide(x, 7, 8, 9), true);
        due.is("the tape is empty then", x.count(6), 0);
        due.is("tide() again has no bytes", x.tide(), false);
        due.is("tide() with 101", Due.tide(x, 1, 1, 101), false);
        due.is("the tape is empty then, too", x.count(6), 0);
        x.feed(0, 0, 0, 0, 0);
        due.is("tide() of 20 bytes", x.tide(), false);
        due.is("the tape is empty then, too", x.count(6), 0);
        for (int hour = 0; hour <= 3; hour++) {
            due.is("LEVEL of hour " + hour + " is what it was", x.level(60 * hour), hour == 3 ? 0 : 7 + hour);
        }
    }

    private static void tideLate(Due due) {
        due.sentence("false, if they are not as told, or MINUTE is not 0.");
        RiverBridges x = new RiverBridges();
        x.go(0);
        due.is("tide() behind go(0)", Due.tide(x, 7), true);
        x.go(1);
        due.is("tide() in MINUTE 1", Due.tide(x, 50), false);
        x.go(1440);
        due.is("tide() in MINUTE 1440", Due.tide(x, 50), false);
        due.is("level(0) is what it was", x.level(0), 7);
        due.is("the tape is empty then", x.count(6), 0);
    }

    private static void keeperNumbers(Due due) {
        due.sentence("One more KEEPER, at BRIDGE b: the number;");
        RiverBridges x = Due.river(8);
        int[] where = {7, 0, 7, 3};
        for (int k = 0; k < 4; k++) {
            due.is("keeper(" + where[k] + ")", x.keeper(where[k]), k);
        }
        for (int k = 0; k < 4; k++) {
            due.is("keeps(" + k + ", 0)", x.keeps(k, 0), where[k]);
            due.is("keeps(" + k + ", 1)", x.keeps(k, 1), -1);
            due.is("keeps(" + k + ", 2)", x.keeps(k, 2), -1);
        }
    }

    private static void keeperRefused(Due due) {
        due.sentence("NONE: there are 4, no such BRIDGE, or MINUTE is not 0.");
        RiverBridges x = new RiverBridges();
        due.is("keeper(0) without a BRIDGE", x.keeper(0), -1);
        x.bridge(10, 1, 1, 1, 0, 1);
        x.bridge(10, 1, 1, 1, 0, 1);
        for (int b : new int[] {-1, 2, 7, 8, LEAST_INT, MOST_INT}) {
            due.is("keeper(" + b + ")", x.keeper(b), -1);
        }
        for (int k = 0; k < 4; k++) {
            due.is("keeper " + k, x.keeper(1), k);
        }
        due.is("a fifth", x.keeper(1), -1);
        due.is("count(3)", x.count(3), 4);
        due.is("keeps(4, 0)", x.keeps(4, 0), -1);
        RiverBridges y = Due.river(1);
        y.go(0);
        due.is("keeper behind go(0)", y.keeper(0), 0);
        y.go(1);
        due.is("keeper in MINUTE 1", y.keeper(0), -1);
        y.go(1440);
        due.is("keeper in MINUTE 1440", y.keeper(0), -1);
        due.is("count(3)", y.count(3), 1);
    }

    /** When the KEEPER comes from BRIDGE 0 to 1, which is WANTED from MINUTE 0 on. */
    private static int comesThere(RiverBridges x) {
        x.keeper(0);
        x.ship(11, false, 0);
        x.go(1);
        return x.keeps(0, 2);
    }

    private static void legsWithin(Due due) {
        due.sentence("LEGS are 1 to 30 MINUTES.");
        for (int n : new int[] {1, 2, 29, 30}) {
            RiverBridges x = Due.river(2);
            due.is("legs(" + n + ")", x.legs(n), true);
            due.is("the KEEPER comes there", comesThere(x), n);
        }
        for (int n : new int[] {0, -1, 31, 257, 65537, LEAST_INT, MOST_INT}) {
            RiverBridges x = Due.river(2);
            x.legs(7);
            due.is("legs(" + n + ")", x.legs(n), false);
            due.is("the KEEPER comes there as ahead of it", comesThere(x), 7);
        }
        RiverBridges x = Due.river(2);
        x.legs(30);
        x.legs(1);
        due.is("the latest LEGS", comesThere(x), 1);
    }

    private static void legsLate(Due due) {
        due.sentence("LEGS are others: true; false, if they are not as told, or MINUTE is not 0.");
        RiverBridges x = Due.river(2);
        x.go(0);
        due.is("legs behind go(0)", x.legs(9), true);
        x.keeper(0);
        x.go(1);
        due.is("legs in MINUTE 1", x.legs(3), false);
        x.ship(11, false, 1);
        x.go(1);
        due.is("LEGS are what they were", x.keeps(0, 2), 10);
        x.go(1440);
        due.is("legs in MINUTE 1440", x.legs(3), false);
    }

    private static void shipNumbers(Due due) {
        due.sentence("SHIPS 0 .. 39: HIGH (0 to 500), up or down, the MINUTE in which it COMES to its first BRIDGE (up: 0, down: the last one).");
        RiverBridges x = Due.river(8);
        for (int high : new int[] {-1, 501, 65536, LEAST_INT, MOST_INT}) {
            due.is("ship, HIGH " + high, x.ship(high, true, 0), -1);
        }
        for (int comes : new int[] {-1, 1441, 65536, LEAST_INT, MOST_INT}) {
            due.is("ship, COMES " + comes, x.ship(0, true, comes), -1);
        }
        due.is("count(2)", x.count(2), 0);
        due.is("the least", x.ship(0, true, 0), 0);
        due.is("the most", x.ship(500, false, 1440), 1);
        due.is("one ahead of the most", x.ship(499, false, 1439), 2);
        due.is("up: to BRIDGE 0", x.told(0, 1), 0);
        due.is("down: to the last one", x.told(1, 1), 7);
        x.go(1);
        due.is("it COMES in MINUTE 0", x.through(0, 0), 0);
        x.go(1439);
        due.is("it COMES in MINUTE 1440, in which nothing is done", x.told(1, 0), 0);
        due.is("it COMES in MINUTE 1439", x.told(2, 0), 1);
    }

    private static void shipsFull(Due due) {
        due.sentence("One more SHIP: its number;");
        RiverBridges x = Due.river(1);
        for (int s = 0; s < 40; s++) {
            due.is("ship " + s, x.ship(0, s % 2 == 0, s), s);
            due.is("a refused one has no number", x.ship(501, true, 0), -1);
        }
        due.sentence("NONE: there are 40, no BRIDGE, a number is not as told, or it COMES ahead of MINUTE.");
        due.is("one too many", x.ship(0, true, 0), -1);
        due.is("count(2)", x.count(2), 40);
        due.noneSuch(x, 40, 0);
        x.go(1440);
        due.is("one too many, though all are THROUGH", x.ship(0, true, 1440), -1);
        for (int s = 0; s < 40; s++) {
            due.is("through(" + s + ", 0)", x.through(s, 0), s);
        }
    }

    private static void shipWithoutBridge(Due due) {
        due.sentence("NONE: there are 40, no BRIDGE, a number is not as told, or it COMES ahead of MINUTE.");
        RiverBridges x = new RiverBridges();
        due.is("ship up", x.ship(0, true, 0), -1);
        due.is("ship down", x.ship(0, false, 0), -1);
        x.go(10);
        due.is("ship in MINUTE 10", x.ship(0, false, 10), -1);
        due.is("count(2)", x.count(2), 0);
    }

    private static void shipAheadOfMinute(Due due) {
        due.sentence("NONE: there are 40, no BRIDGE, a number is not as told, or it COMES ahead of MINUTE.");
        RiverBridges x = Due.river(1);
        x.go(10);
        due.is("COMES in 9, in MINUTE 10", x.ship(0, true, 9), -1);
        due.is("COMES in 0, in MINUTE 10", x.ship(0, true, 0), -1);
        due.is("COMES in 10, in MINUTE 10", x.ship(0, true, 10), 0);
        due.is("COMES in 11, in MINUTE 10", x.ship(0, true, 11), 1);
        x.go(2);
        due.is("through(0, 0)", x.through(0, 0), 10);
        due.is("through(1, 0)", x.through(1, 0), 11);
        x.go(1440);
        due.is("COMES in 1439, in MINUTE 1440", x.ship(0, true, 1439), -1);
        due.is("COMES in 1440, in MINUTE 1440", x.ship(0, true, 1440), 2);
    }
}
