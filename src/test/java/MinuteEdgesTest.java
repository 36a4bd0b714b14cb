/** The boundary cases of promises 11, 14 to 17 and 19, sentence by sentence: what is done in the MINUTES. */
public final class MinuteEdgesTest {
    private static final int LEAST_INT = Integer.MIN_VALUE;
    private static final int MOST_INT = Integer.MAX_VALUE;

    public static void main(String[] args) {
        Due due = new Due();
        clearAtMost(due);
        wayLater(due);
        behindTheLastOne(due);
        openingAndShutting(due);
        comingInTheMinute(due);
        turnsEndInTheMinute(due);
        underItAll(due);
        longestOneMore(due);
        notWanted(due);
        shutsAheadOfShutTimes(due);
        opensAwayFromShutTimes(due);
        keeperMustBeThere(due);
        keeperSomewhere(due);
        keeperSetsOut(due);
        keeperStays(due);
        keeperNearest(due);
        keeperNoneThere(due);
        keeperFar(due);
        carsGoOver(due);
        dayIsOver(due);
        minuteByMinute(due);
        goNumbers(due);
        aboutOthers(due);
        aboutTurning(due);
        aboutCounts(due);
        toldStates(due);
        toldStill(due);
        toldOthers(due);
        throughNotYet(due);
        keepsOthers(due);
        keepsOnTheWay(due);
        counts(due);
        countMost(due);
        due.end();
    }

    private static void about(Due due, RiverBridges x, int b, int... answers) {
        for (int what = 0; what < answers.length; what++) {
            due.is("about(" + b + ", " + what + ") in MINUTE " + x.count(0), x.about(b, what), answers[what]);
        }
    }

    private static void told(Due due, RiverBridges x, int s, int... answers) {
        for (int what = 0; what < answers.length; what++) {
            due.is("told(" + s + ", " + what + ") in MINUTE " + x.count(0), x.told(s, what), answers[what]);
        }
    }

    private static void keeps(Due due, RiverBridges x, int k, int... answers) {
        for (int what = 0; what < answers.length; what++) {
            due.is("keeps(" + k + ", " + what + ") in MINUTE " + x.count(0), x.keeps(k, what), answers[what]);
        }
    }

    private static void through(Due due, RiverBridges x, int b, int... answers) {
        for (int s = 0; s < answers.length; s++) {
            due.is("through(" + s + ", " + b + ") in MINUTE " + x.count(0), x.through(s, b), answers[s]);
        }
    }

    /** One BRIDGE with a KEEPER. */
    private static RiverBridges kept(int clear, int opens, int shuts, String text) {
        RiverBridges x = new RiverBridges();
        x.bridge(clear, opens, shuts, 1, 0, 1);
        x.keeper(0);
        Due.timetable(x, text);
        return x;
    }

    private static void clearAtMost(Due due) {
        due.sentence("A SHIP that is at a BRIDGE goes THROUGH, if the BRIDGE is OPEN, or if HIGH and LEVEL together are CLEAR at most;");
        int[][] rows = {{0, 0, 0, 0}, {0, 0, 1, -1}, {0, 1, 0, -1}, {400, 0, 400, 0}, {400, 0, 401, -1}, {400, 100, 300, 0},
            {400, 100, 301, -1}, {400, 100, 500, -1}, {99, 100, 0, -1}, {100, 100, 0, 0}};
        for (int[] row : rows) {
            RiverBridges x = new RiverBridges();
            Due.tide(x, row[1], row[1], row[1]);
            x.bridge(row[0], 1, 1, 1, 0, 1);
            x.ship(row[2], true, 0);
            x.go(60);
            due.is("CLEAR " + row[0] + ", LEVEL " + row[1] + ", HIGH " + row[2], x.through(0, 0), row[3]);
        }
        RiverBridges open = kept(0, 1, 1, "");
        open.ship(500, true, 0);
        open.go(2);
        due.is("the highest one, the lowest BRIDGE, but OPEN", open.through(0, 0), 1);
    }

    private static void wayLater(Due due) {
        due.sentence("it is at the next one WAY MINUTES later (of the BRIDGES between which it goes that of the lower one);");
        RiverBridges x = new RiverBridges();
        x.bridge(400, 1, 1, 1, 0, 1);
        x.bridge(400, 1, 1, 60, 0, 1);
        x.bridge(400, 1, 1, 7, 0, 1);
        x.ship(0, true, 0);
        x.ship(0, false, 0);
        x.go(1);
        told(due, x, 0, 2, 1, 0, -1);
        told(due, x, 1, 2, 1, 0, -1);
        x.go(59);
        due.is("up, WAY 1", x.through(0, 1), 1);
        due.is("down, not yet", x.through(1, 1), -1);
        x.go(1);
        due.is("down, WAY 60", x.through(1, 1), 60);
        due.is("up, not yet", x.through(0, 2), -1);
        x.go(1);
        due.is("up, WAY 60", x.through(0, 2), 61);
        due.is("down, WAY 1", x.through(1, 0), 61);
    }

    private static void behindTheLastOne(Due due) {
        due.sentence("behind the last one it is THROUGH all.");
        RiverBridges x = Due.river(1);
        x.ship(0, true, 3);
        x.ship(0, false, 3);
        x.go(3);
        told(due, x, 0, 0, 0, 0, -1);
        x.go(1);
        told(due, x, 0, 3, -1, 0, 3);
        told(due, x, 1, 3, -1, 0, 3);
        due.is("count(4)", x.count(4), 2);
        RiverBridges y = Due.river(8);
        y.ship(0, true, 0);
        y.ship(0, false, 0);
        y.go(70);
        told(due, y, 0, 2, 7, 0, -1);
        told(due, y, 1, 2, 0, 0, -1);
        y.go(1);
        told(due, y, 0, 3, -1, 0, 70);
        told(due, y, 1, 3, -1, 0, 70);
        y.go(1369);
        told(due, y, 0, 3, -1, 0, 70);
    }

    private static void openingAndShutting(Due due) {
        due.sentence("A BRIDGE is SHUT, OPENING (OPENS MINUTES), OPEN, SHUTTING (SHUTS MINUTES).");
        for (int opens : new int[] {1, 9}) {
            for (int shuts : new int[] {1, 9}) {
                RiverBridges x = kept(0, opens, shuts, "");
                x.ship(1, true, 5);
                x.go(5);
                about(due, x, 0, 0, -1, 0);
                x.go(1);
                about(due, x, 0, 1, 5 + opens, 1);
                x.go(opens - 1);
                about(due, x, 0, 1, 5 + opens, 1);
                x.go(1);
                about(due, x, 0, 3, 5 + opens + shuts, 0);
                x.go(shuts - 1);
                about(due, x, 0, 3, 5 + opens + shuts, 0);
                x.go(1);
                about(due, x, 0, 0, -1, 0, 0, 1);
                told(due, x, 0, 3, -1, opens, 5 + opens);
            }
        }
    }

    private static void comingInTheMinute(Due due) {
        due.sentence("1. SHIPS that COME, or are at the next BRIDGE, in it, are AT it. KEEPERS who come to a BRIDGE in it are there.");
        RiverBridges x = Due.river(2);
        x.legs(10);
        x.keeper(0);
        x.ship(11, true, 0);
        x.go(11);
        told(due, x, 0, 2, 1, 1, -1);
        keeps(due, x, 0, 0, -1, -1);
        x.go(1);
        told(due, x, 0, 1, 1, 2, -1);
        keeps(due, x, 0, -1, 1, 21);
        x.go(9);
        keeps(due, x, 0, -1, 1, 21);
        about(due, x, 1, 0, -1, 1, 0, 0);
        x.go(1);
        keeps(due, x, 0, 1, -1, -1);
        about(due, x, 1, 1, 22, 1, 0, 1);
    }

    private static void turnsEndInTheMinute(Due due) {
        due.sentence("Each BRIDGE whose OPENING, SHUTTING ends in it is OPEN, SHUT.");
        RiverBridges x = kept(0, 1, 1, "");
        x.ship(1, true, 0);
        x.ship(1, true, 2);
        x.ship(1, true, 5);
        x.go(2);
        about(due, x, 0, 3, 2, 0, 0, 1);
        x.go(1);
        about(due, x, 0, 1, 3, 1, 0, 2);
        x.go(2);
        about(due, x, 0, 0, -1, 0, 0, 2);
        x.go(2);
        through(due, x, 0, 1, 3, 6);
        due.is("how often it was OPENING", x.about(0, 4), 3);
    }

    private static void underItAll(Due due) {
        due.sentence("2. BRIDGE by BRIDGE: of the SHIPS AT it those that come under it go THROUGH, all; if it is OPEN, one more:");
        RiverBridges x = kept(10, 1, 1, "");
        x.ship(11, true, 0);
        x.ship(11, true, 0);
        x.ship(10, true, 1);
        x.ship(0, true, 1);
        x.ship(10, false, 1);
        x.ship(10, true, 0);
        x.go(2);
        through(due, x, 0, 1, -1, 1, 1, 1, 0);
        x.go(1);
        through(due, x, 0, 1, 2);
        RiverBridges many = Due.river(1);
        for (int s = 0; s < 40; s++) {
            many.ship(10, true, 7);
        }
        many.go(8);
        due.is("forty in a MINUTE", many.count(4), 40);
        due.is("none is AT it", many.about(0, 2), 0);
    }

    private static void longestOneMore(Due due) {
        due.sentence("the one that is AT it longest, of like ones the least number.");
        RiverBridges x = kept(0, 9, 1, "");
        int[] comes = {9, 2, 1, 2, 0, 9, 1};
        for (int c : comes) {
            x.ship(1, true, c);
        }
        x.go(30);
        through(due, x, 0, 14, 12, 10, 13, 9, 15, 11);
        RiverBridges y = new RiverBridges();
        y.bridge(400, 1, 1, 5, 0, 1);
        y.bridge(0, 9, 1, 1, 0, 1);
        y.keeper(1);
        y.ship(1, true, 3);
        y.ship(1, true, 1);
        y.ship(1, false, 7);
        y.ship(1, false, 6);
        y.go(20);
        due.is("since it is AT this BRIDGE, not since it came to the first one", y.through(1, 1), 15);
        due.is("of two that are there since MINUTE 6 and 7", y.through(3, 1), 16);
        due.is("of two that are there since MINUTE 7", y.through(2, 1), 17);
        due.is("the one that is there since MINUTE 8", y.through(0, 1), 18);
    }

    private static void notWanted(Due due) {
        due.sentence("3. BRIDGE by BRIDGE: WANTED, if a SHIP is AT it. If it is OPEN, and not WANTED,");
        RiverBridges x = kept(60, 3, 2, "");
        Due.tide(x, 60, 0);
        x.ship(1, true, 0);
        x.go(1);
        about(due, x, 0, 1, 3, 1);
        x.go(1);
        about(due, x, 0, 1, 3, 0);
        due.is("it came under it meanwhile", x.through(0, 0), 1);
        x.go(2);
        about(due, x, 0, 3, 5, 0, 0, 1);
        RiverBridges y = kept(0, 1, 1, "");
        y.ship(1, true, 0);
        y.ship(1, true, 1);
        y.ship(1, true, 3);
        y.go(2);
        about(due, y, 0, 2, -1, 1);
        y.go(1);
        about(due, y, 0, 3, 3, 0);
        y.go(1);
        about(due, y, 0, 1, 4, 1, 0, 2);
    }

    /** Forty SHIPS want the BRIDGE all the while. */
    private static RiverBridges crowd(int opens, int shuts, String text) {
        RiverBridges x = kept(0, opens, shuts, text);
        for (int s = 0; s < 40; s++) {
            x.ship(1, true, 0);
        }
        return x;
    }

    private static void shutsAheadOfShutTimes(Due due) {
        due.sentence("or one of the MINUTES m + 1 to m + SHUTS is of its SHUT TIMES: it is SHUTTING, up to MINUTE m + SHUTS.");
        for (int shuts : new int[] {1, 4, 9}) {
            RiverBridges x = crowd(1, shuts, "bridge 0 bar 30 to 31;");
            x.go(30 - shuts);
            about(due, x, 0, 2, -1);
            x.go(1);
            about(due, x, 0, 3, 30);
            x.go(shuts);
            about(due, x, 0, 0, -1);
            x.go(1);
            about(due, x, 0, 1, 32);
            RiverBridges train = crowd(1, shuts, "bridge 0 train 30;");
            train.go(28 - shuts);
            about(due, train, 0, 2, -1);
            train.go(1);
            about(due, train, 0, 3, 28);
        }
        RiverBridges late = kept(0, 1, 9, "bridge 0 train 1440;");
        for (int s = 0; s < 40; s++) {
            late.ship(1, true, 1420);
        }
        late.go(1429);
        about(due, late, 0, 2, -1);
        late.go(1);
        about(due, late, 0, 3, 1438);
    }

    private static void opensAwayFromShutTimes(Due due) {
        due.sentence("If it is SHUT, WANTED, a KEEPER is there, and none of the MINUTES m to m + OPENS + SHUTS is of its SHUT TIMES:"
            + " it is OPENING, up to MINUTE m + OPENS.");
        int[][] turns = {{1, 1}, {9, 1}, {1, 9}, {9, 9}, {3, 4}};
        for (int[] turn : turns) {
            int both = turn[0] + turn[1];
            RiverBridges just = kept(0, turn[0], turn[1], "bridge 0 bar 100 to 120;");
            just.ship(1, true, 99 - both);
            just.go(100 - both);
            about(due, just, 0, 1, 99 - turn[1]);
            RiverBridges late = kept(0, turn[0], turn[1], "bridge 0 bar 100 to 120;");
            late.ship(1, true, 100 - both);
            late.go(120);
            about(due, late, 0, 0, -1, 1, 0, 0);
            late.go(1);
            about(due, late, 0, 1, 120 + turn[0], 1, 0, 1);
        }
        RiverBridges other = kept(0, 1, 1, "bridge 1 bar 0 to 1440;");
        other.bridge(400, 1, 1, 1, 0, 1);
        other.ship(1, true, 0);
        other.go(1);
        about(due, other, 0, 1, 1);
        RiverBridges never = kept(0, 1, 1, "bridge 0 bar 0 to 1440;");
        never.ship(1, true, 0);
        never.go(1440);
        about(due, never, 0, 0, -1, 1, 0, 0);
    }

    private static void keeperMustBeThere(Due due) {
        due.sentence("If it is SHUT, WANTED, a KEEPER is there,");
        RiverBridges none = Due.river(1);
        none.ship(11, true, 0);
        none.go(1440);
        about(due, none, 0, 0, -1, 1, 0, 0);
        RiverBridges two = Due.river(1);
        two.keeper(0);
        two.keeper(0);
        two.ship(11, true, 0);
        two.go(1);
        about(due, two, 0, 1, 1, 1, 0, 1);
    }

    private static void keeperSomewhere(Due due) {
        due.sentence("KEEPERS 0 .. 3 are each at a BRIDGE, or on the way to one;");
        RiverBridges x = Due.river(8);
        x.legs(3);
        for (int k = 0; k < 4; k++) {
            x.keeper(7);
        }
        for (int s = 0; s < 8; s++) {
            x.ship(11, true, 3 * s);
        }
        boolean[] seenOnTheWay = new boolean[4];
        for (int m = 0; m < 35; m++) {
            x.go(1);
            for (int k = 0; k < 4; k++) {
                int where = x.keeps(k, 0);
                int goal = x.keeps(k, 1);
                int comes = x.keeps(k, 2);
                boolean there = where >= 0 && goal == -1 && comes == -1;
                boolean onTheWay = where == -1 && goal >= 0 && comes > m;
                due.is("KEEPER " + k + " behind MINUTE " + m, there != onTheWay, true);
                seenOnTheWay[k] |= onTheWay;
            }
        }
        due.is("the first of them set out", seenOnTheWay[0], true);
        due.is("a fifth", x.keeps(4, 0), -1);
    }

    private static void keeperSetsOut(Due due) {
        due.sentence("4. KEEPERS, by number, who are at a BRIDGE that is SHUT and not WANTED:");
        RiverBridges x = Due.river(3);
        x.keeper(1);
        x.keeper(1);
        x.keeper(1);
        x.keeper(1);
        x.ship(11, true, 0);
        x.ship(11, false, 0);
        x.go(1);
        keeps(due, x, 0, -1, 0, 5);
        keeps(due, x, 1, -1, 2, 5);
        keeps(due, x, 2, 1, -1, -1);
        keeps(due, x, 3, 1, -1, -1);
    }

    private static void keeperStays(Due due) {
        due.sentence("4. KEEPERS, by number, who are at a BRIDGE that is SHUT and not WANTED:");
        RiverBridges x = new RiverBridges();
        x.bridge(10, 2, 2, 50, 0, 1);
        x.bridge(10, 2, 2, 50, 0, 1);
        x.keeper(0);
        Due.timetable(x, "bridge 0 bar 0 to 3;");
        x.ship(11, true, 0);
        x.ship(11, true, 5);
        x.ship(11, false, 0);
        for (int m = 0; m < 8; m++) {
            x.go(1);
            keeps(due, x, 0, 0, -1, -1);
        }
        about(due, x, 0, 3, 8);
        through(due, x, 0, 5, 6);
        x.go(1);
        about(due, x, 0, 0, -1);
        keeps(due, x, 0, -1, 1, 13);
    }

    private static void keeperNearest(Due due) {
        due.sentence("each goes to the nearest BRIDGE that is WANTED,");
        due.sentence("(of two the lower one), if there is one:");
        for (int at = 1; at < 7; at++) {
            RiverBridges x = Due.river(8);
            x.keeper(at);
            x.ship(11, true, 0);
            x.ship(11, false, 0);
            x.go(1);
            int goal = at <= 3 ? 0 : 7;
            keeps(due, x, 0, -1, goal, 5 * Math.abs(goal - at));
        }
        RiverBridges like = Due.river(7);
        like.keeper(3);
        like.ship(11, false, 0);
        like.ship(11, true, 0);
        like.go(1);
        keeps(due, like, 0, -1, 0, 15);
        RiverBridges inside = new RiverBridges();
        for (int b = 0; b < 8; b++) {
            inside.bridge(b < 2 ? 400 : 10, 1, 1, 1, 0, 1);
        }
        inside.keeper(3);
        inside.ship(11, true, 0);
        inside.ship(11, false, 2);
        inside.go(3);
        keeps(due, inside, 0, -1, 2, 7);
        RiverBridges none = Due.river(8);
        none.keeper(3);
        none.ship(10, true, 0);
        none.go(100);
        keeps(due, none, 0, 3, -1, -1);
    }

    private static void keeperNoneThere(Due due) {
        due.sentence("with no KEEPER there or on the way to it");
        RiverBridges there = Due.river(4);
        there.keeper(1);
        there.keeper(0);
        Due.timetable(there, "bridge 0 bar 0 to 100;");
        there.ship(11, true, 0);
        there.go(50);
        keeps(due, there, 0, 1, -1, -1);
        keeps(due, there, 1, 0, -1, -1);
        there.ship(11, false, 50);
        there.go(1);
        keeps(due, there, 0, -1, 3, 60);
        RiverBridges onTheWay = Due.river(4);
        onTheWay.keeper(3);
        onTheWay.keeper(1);
        onTheWay.ship(11, true, 0);
        onTheWay.go(1);
        keeps(due, onTheWay, 0, -1, 0, 15);
        keeps(due, onTheWay, 1, 1, -1, -1);
        onTheWay.go(14);
        keeps(due, onTheWay, 1, 1, -1, -1);
    }

    private static void keeperFar(Due due) {
        due.sentence("there LEGS times the number of BRIDGES farther MINUTES later.");
        for (int legs : new int[] {1, 30}) {
            RiverBridges x = Due.river(8);
            x.legs(legs);
            x.keeper(0);
            x.ship(11, false, 4);
            x.go(5);
            keeps(due, x, 0, -1, 7, 4 + 7 * legs);
            x.go(7 * legs - 1);
            keeps(due, x, 0, -1, 7, 4 + 7 * legs);
            x.go(1);
            keeps(due, x, 0, 7, -1, -1);
            about(due, x, 7, 1, 5 + 7 * legs);
        }
        RiverBridges down = Due.river(8);
        down.keeper(7);
        down.ship(11, true, 0);
        down.go(1);
        keeps(due, down, 0, -1, 0, 35);
    }

    private static void carsGoOver(Due due) {
        due.sentence("5. CARS: of each BRIDGE those that come WAIT, too; if it is SHUT, FLOW of those that WAIT go over, or all.");
        RiverBridges x = new RiverBridges();
        x.bridge(0, 3, 1, 1, 60, 99);
        x.bridge(400, 1, 1, 1, 60, 60);
        x.bridge(400, 1, 1, 1, 60, 59);
        x.bridge(400, 1, 1, 1, 0, 1);
        x.bridge(400, 1, 1, 1, 1, 99);
        x.keeper(0);
        x.ship(1, true, 1);
        int[] waiting = {0, 60, 120, 180, 240, 201, 162, 123, 84, 45, 6, 0, 0};
        int together = 0;
        for (int m = 0; m < waiting.length; m++) {
            x.go(1);
            together += waiting[m];
            due.is("about(0, 3) behind MINUTE " + m, x.about(0, 3), waiting[m]);
            due.is("about(0, 5) behind MINUTE " + m, x.about(0, 5), together);
            due.is("FLOW is CARS", x.about(1, 3), 0);
            due.is("FLOW is one less", x.about(2, 3), m + 1);
            due.is("no CARS", x.about(3, 3), 0);
            due.is("FLOW is far more", x.about(4, 3), 0);
        }
    }

    private static void dayIsOver(Due due) {
        due.sentence("In MINUTE 1440 the day is over: nothing more is done.");
        RiverBridges x = new RiverBridges();
        x.bridge(10, 9, 9, 1, 60, 1);
        x.bridge(10, 1, 1, 1, 60, 1);
        x.bridge(10, 1, 1, 1, 60, 1);
        x.keeper(0);
        x.keeper(1);
        x.ship(11, true, 1431);
        x.ship(0, true, 1440);
        x.ship(0, false, 1439);
        x.ship(11, false, 1435);
        x.go(1439);
        due.is("go(1)", x.go(1), 1440);
        int waiting = x.about(0, 3);
        int waited = x.about(0, 5);
        due.is("go(1) at the end of the day", x.go(1), 1440);
        due.is("go(1440) at the end of the day", x.go(1440), 1440);
        about(due, x, 0, 1, 1440, 1, waiting, 1, waited);
        keeps(due, x, 1, -1, 2, 1440);
        told(due, x, 0, 1, 0, 9, -1);
        told(due, x, 1, 0, 0, 0, -1);
        told(due, x, 2, 2, 1, 0, -1);
        told(due, x, 3, 1, 2, 5, -1);
        due.is("ship in MINUTE 1440", x.ship(0, true, 1440), 4);
        x.go(1);
        told(due, x, 4, 0, 0, 0, -1);
        due.is("count(4)", x.count(4), 0);
        due.is("count(5)", x.count(5), 9);
    }

    private static void minuteByMinute(Due due) {
        due.sentence("Then it is MINUTE m + 1.");
        RiverBridges once = crowd(3, 2, "bridge 0 bar 20 to 30 train 50;");
        RiverBridges often = crowd(3, 2, "bridge 0 bar 20 to 30 train 50;");
        due.is("go(70)", once.go(70), 70);
        for (int m = 1; m <= 70; m++) {
            due.is("go(1)", often.go(1), m);
        }
        for (int s = 0; s < 40; s++) {
            due.is("through(" + s + ", 0)", often.through(s, 0), once.through(s, 0));
            due.is("told(" + s + ", 2)", often.told(s, 2), once.told(s, 2));
        }
    }

    private static void goNumbers(Due due) {
        due.sentence("n MINUTES are done (0 to 1440; up to 1440 in all): MINUTE then; NONE: another n.");
        RiverBridges x = Due.river(1);
        x.ship(0, true, 0);
        for (int n : new int[] {-1, 1441, LEAST_INT, MOST_INT}) {
            due.is("go(" + n + ")", x.go(n), -1);
            due.is("MINUTE then", x.count(0), 0);
        }
        due.is("go(0)", x.go(0), 0);
        told(due, x, 0, 0);
        due.is("go(1)", x.go(1), 1);
        due.is("go(0)", x.go(0), 1);
        due.is("go(1438)", x.go(1438), 1439);
        due.is("go(1441)", x.go(1441), -1);
        due.is("go(1440), but one alone is left", x.go(1440), 1440);
        due.is("go(0)", x.go(0), 1440);
        due.is("go(1)", x.go(1), 1440);
        due.is("go(-1)", x.go(-1), -1);
        due.is("go(1441)", x.go(1441), -1);
        due.is("go(1440) of a new one", new RiverBridges().go(1440), 1440);
        due.is("go(1439) of a new one", new RiverBridges().go(1439), 1439);
    }

    private static void aboutOthers(Due due) {
        due.sentence("NONE: no such one, or another what.");
        RiverBridges x = Due.river(2);
        for (int what : new int[] {-1, 6, 7, LEAST_INT, MOST_INT}) {
            due.is("about(1, " + what + ")", x.about(1, what), -1);
        }
        for (int b : new int[] {-1, 2, 7, 8, LEAST_INT, MOST_INT}) {
            for (int what = -1; what <= 6; what++) {
                due.is("about(" + b + ", " + what + ")", x.about(b, what), -1);
            }
        }
        about(due, x, 1, 0, -1, 0, 0, 0, 0);
        RiverBridges eight = Due.river(8);
        about(due, eight, 7, 0, -1, 0, 0, 0, 0);
        due.is("about(8, 0) of eight", eight.about(8, 0), -1);
    }

    private static void aboutTurning(Due due) {
        due.sentence("0 state (0 SHUT, 1 OPENING, 2 OPEN, 3 SHUTTING), 1 the MINUTE in which that ends (NONE: SHUT, OPEN)");
        RiverBridges x = kept(0, 9, 9, "");
        x.ship(1, true, 1439);
        x.go(1440);
        about(due, x, 0, 1, 1448);
        RiverBridges y = kept(0, 9, 9, "");
        y.ship(1, true, 1430);
        y.go(1440);
        about(due, y, 0, 3, 1448);
        RiverBridges open = kept(0, 1, 1, "");
        open.ship(1, true, 1438);
        open.ship(1, true, 1438);
        open.go(1440);
        about(due, open, 0, 2, -1);
    }

    private static void aboutCounts(Due due) {
        due.sentence("2 how many SHIPS are AT it, 3 CARS that WAIT, 4 how often it was OPENING, 5 CARS that WAITED behind each MINUTE's end, together.");
        RiverBridges x = new RiverBridges();
        x.bridge(0, 1, 1, 1, 60, 1);
        for (int s = 0; s < 40; s++) {
            x.ship(1, s % 2 == 0, 1000);
        }
        due.is("none has come", x.about(0, 2), 0);
        x.go(1440);
        about(due, x, 0, 0, -1, 40, 59 * 1440, 0, 59 * 1440 * 1441 / 2);
        RiverBridges y = kept(0, 1, 1, "");
        for (int s = 0; s < 40; s++) {
            y.ship(1, true, 2 * s);
        }
        y.go(1440);
        about(due, y, 0, 0, -1, 0, 0, 40, 0);
    }

    private static void toldStates(Due due) {
        due.sentence("0 state (0 not yet come, 1 AT a BRIDGE, 2 under way, 3 THROUGH all),"
            + " 1 the BRIDGE at which it is, or to which it goes (NONE: THROUGH all)");
        RiverBridges x = Due.river(2);
        x.keeper(0);
        x.keeper(1);
        x.ship(11, true, 1);
        x.ship(11, false, 1);
        x.go(1);
        told(due, x, 0, 0, 0, 0, -1);
        told(due, x, 1, 0, 1, 0, -1);
        x.go(1);
        told(due, x, 0, 1, 0, 1, -1);
        told(due, x, 1, 1, 1, 1, -1);
        x.go(1);
        told(due, x, 0, 2, 1, 1, -1);
        told(due, x, 1, 2, 0, 1, -1);
        x.go(10);
        told(due, x, 0, 1, 1, 2, -1);
        told(due, x, 1, 1, 0, 2, -1);
        x.go(1);
        told(due, x, 0, 3, -1, 2, 13);
        told(due, x, 1, 3, -1, 2, 13);
    }

    private static void toldStill(Due due) {
        due.sentence("2 in how many MINUTES it was still AT a BRIDGE behind 2., 3 the MINUTE in which it was THROUGH all (NONE).");
        RiverBridges x = Due.river(1);
        x.ship(10, true, 0);
        x.ship(11, true, 0);
        x.ship(11, true, 1439);
        x.ship(11, true, 1440);
        x.go(1440);
        told(due, x, 0, 3, -1, 0, 0);
        told(due, x, 1, 1, 0, 1440, -1);
        told(due, x, 2, 1, 0, 1, -1);
        told(due, x, 3, 0, 0, 0, -1);
        RiverBridges y = Due.river(1);
        y.ship(0, true, 1439);
        y.go(1440);
        told(due, y, 0, 3, -1, 0, 1439);
    }

    private static void toldOthers(Due due) {
        due.sentence("NoSuchElementException: no such one, or another what.");
        RiverBridges x = Due.river(1);
        due.noneSuch(x, 0, 0);
        x.ship(0, true, 0);
        x.ship(0, true, 0);
        for (int what : new int[] {-1, 4, 5, LEAST_INT, MOST_INT}) {
            due.noneSuch(x, 1, what);
        }
        for (int s : new int[] {-1, 2, 39, 40, LEAST_INT, MOST_INT}) {
            for (int what = -1; what <= 4; what++) {
                due.noneSuch(x, s, what);
            }
        }
        told(due, x, 1, 0, 0, 0, -1);
    }

    private static void throughNotYet(Due due) {
        due.sentence("The MINUTE in which SHIP s went THROUGH BRIDGE b; NONE: not yet, or no such ones.");
        RiverBridges x = Due.river(2);
        due.is("no SHIP", x.through(0, 0), -1);
        x.ship(0, false, 0);
        due.is("not yet", x.through(0, 1), -1);
        x.go(1);
        due.is("in MINUTE 0", x.through(0, 1), 0);
        due.is("not yet the other one", x.through(0, 0), -1);
        x.go(10);
        due.is("in MINUTE 10", x.through(0, 0), 10);
        due.is("the first one as ahead of it", x.through(0, 1), 0);
        for (int i : new int[] {-1, 2, 7, 8, 40, LEAST_INT, MOST_INT}) {
            due.is("through(0, " + i + ")", x.through(0, i), -1);
            due.is("through(" + i + ", 0)", x.through(i, 0), -1);
            due.is("through(" + i + ", " + i + ")", x.through(i, i), -1);
        }
        due.is("through(1, 0)", x.through(1, 0), -1);
    }

    private static void keepsOthers(Due due) {
        due.sentence("2 the MINUTE in which one comes there (NONE). NONE: no such one, or another what.");
        RiverBridges x = Due.river(2);
        due.is("no KEEPER", x.keeps(0, 0), -1);
        x.keeper(0);
        x.keeper(1);
        for (int k : new int[] {-1, 2, 3, 4, LEAST_INT, MOST_INT}) {
            for (int what = -1; what <= 3; what++) {
                due.is("keeps(" + k + ", " + what + ")", x.keeps(k, what), -1);
            }
        }
        for (int what : new int[] {-1, 3, 4, LEAST_INT, MOST_INT}) {
            due.is("keeps(1, " + what + ")", x.keeps(1, what), -1);
        }
        keeps(due, x, 0, 0, -1, -1);
        keeps(due, x, 1, 1, -1, -1);
    }

    private static void keepsOnTheWay(Due due) {
        due.sentence("0 the BRIDGE where one is (NONE: on the way), 1 where one goes (NONE: nowhere), 2 the MINUTE in which one comes there (NONE).");
        RiverBridges x = Due.river(8);
        x.legs(30);
        x.keeper(7);
        x.ship(11, true, 1439);
        x.go(1439);
        keeps(due, x, 0, 7, -1, -1);
        x.go(1);
        keeps(due, x, 0, -1, 0, 1439 + 210);
    }

    private static void counts(Due due) {
        due.sentence("0 MINUTE, 1 BRIDGES, 2 SHIPS, 3 KEEPERS,");
        due.sentence("6 bytes of the tape. NONE for another what.");
        RiverBridges x = Due.river(3);
        x.keeper(0);
        x.keeper(0);
        x.ship(10, true, 0);
        x.feed(0, 0, 0, 0, 0);
        x.end(19);
        x.go(21);
        int[] wanted = {21, 3, 1, 2, 1, 0, 19};
        for (int what = 0; what < 7; what++) {
            due.is("count(" + what + ")", x.count(what), wanted[what]);
        }
        for (int what : new int[] {-1, 7, 8, LEAST_INT, MOST_INT}) {
            due.is("count(" + what + ")", x.count(what), -1);
        }
    }

    private static void countMost(Due due) {
        due.sentence("4 SHIPS THROUGH all, 5 the most that told(s, 2) is of any SHIP (0 without one)");
        RiverBridges x = new RiverBridges();
        due.is("no SHIP: count(4)", x.count(4), 0);
        due.is("no SHIP: count(5)", x.count(5), 0);
        for (int longest = 0; longest < 3; longest++) {
            RiverBridges y = Due.river(1);
            for (int s = 0; s < 3; s++) {
                y.ship(11, true, s == longest ? 2 : 6);
            }
            y.go(10);
            due.is("SHIP " + longest + " is there longest", y.count(5), 8);
            due.is("none is THROUGH", y.count(4), 0);
        }
        RiverBridges gone = kept(0, 1, 1, "");
        gone.ship(1, true, 0);
        gone.ship(0, true, 5);
        gone.go(10);
        due.is("one that is THROUGH counts, too", gone.count(5), 1);
        due.is("both are THROUGH", gone.count(4), 2);
        RiverBridges still = Due.river(1);
        still.ship(11, true, 0);
        still.go(1440);
        due.is("the most there can be", still.count(5), 1440);
    }
}
