/** Promises 11, 14, 15, 16 and 17: go, about, told, through and keeps. */
public final class MinutesTest {
    public static void main(String[] args) {
        Due due = new Due();
        wrongInputs(due);
        oneShip(due);
        manyShipsAtOnce(due);
        underAndOpen(due);
        barKeepsShut(due);
        barShuts(due);
        nearestKeeper(due);
        keepersByNumber(due);
        keeperStays(due);
        cars(due);
        ways(due);
        endOfDay(due);
        due.end();
    }

    private static void state(Due due, RiverBridges x, int b, int state, int ends) {
        due.is("about(" + b + ", 0) in MINUTE " + x.count(0), x.about(b, 0), state);
        due.is("about(" + b + ", 1) in MINUTE " + x.count(0), x.about(b, 1), ends);
    }

    private static void ship(Due due, RiverBridges x, int s, int... answers) {
        for (int what = 0; what < answers.length; what++) {
            due.is("told(" + s + ", " + what + ") in MINUTE " + x.count(0), x.told(s, what), answers[what]);
        }
    }

    private static void keeper(Due due, RiverBridges x, int k, int... answers) {
        for (int what = 0; what < answers.length; what++) {
            due.is("keeps(" + k + ", " + what + ") in MINUTE " + x.count(0), x.keeps(k, what), answers[what]);
        }
    }

    private static void wrongInputs(Due due) {
        RiverBridges x = new RiverBridges();
        x.bridge(0, 1, 1, 1, 0, 1);
        x.keeper(0);
        x.ship(0, true, 0);
        int[] far = {-1, 1, 8, 40, Integer.MIN_VALUE, Integer.MAX_VALUE};
        for (int i : far) {
            due.is("about(" + i + ", 0)", x.about(i, 0), -1);
            due.noneSuch(x, i, 0);
            due.is("through(" + i + ", 0)", x.through(i, 0), -1);
            due.is("through(0, " + i + ")", x.through(0, i), -1);
            due.is("keeps(" + i + ", 0)", x.keeps(i, 0), -1);
        }
        for (int what : new int[] {-1, 6, Integer.MIN_VALUE, Integer.MAX_VALUE}) {
            due.is("about(0, " + what + ")", x.about(0, what), -1);
            due.noneSuch(x, 0, what);
            due.is("keeps(0, " + what + ")", x.keeps(0, what), -1);
        }
        due.noneSuch(x, 0, 4);
        due.is("keeps(0, 3)", x.keeps(0, 3), -1);
        for (int n : new int[] {-1, 1441, Integer.MIN_VALUE, Integer.MAX_VALUE}) {
            due.is("go(" + n + ")", x.go(n), -1);
        }
        due.is("go(0)", x.go(0), 0);
        ship(due, x, 0, 0, 0, 0, -1);
        due.is("go(1)", x.go(1), 1);
        due.is("through(0, 0)", x.through(0, 0), 0);
    }

    private static void oneShip(Due due) {
        RiverBridges x = new RiverBridges();
        x.bridge(10, 3, 4, 1, 0, 1);
        x.keeper(0);
        x.ship(11, true, 2);
        x.go(2);
        ship(due, x, 0, 0, 0, 0, -1);
        state(due, x, 0, 0, -1);
        x.go(1);
        ship(due, x, 0, 1, 0, 1, -1);
        due.is("about(0, 2)", x.about(0, 2), 1);
        due.is("about(0, 4)", x.about(0, 4), 1);
        state(due, x, 0, 1, 5);
        x.go(2);
        ship(due, x, 0, 1, 0, 3, -1);
        state(due, x, 0, 1, 5);
        due.is("through(0, 0) not yet", x.through(0, 0), -1);
        x.go(1);
        ship(due, x, 0, 3, -1, 3, 5);
        due.is("through(0, 0)", x.through(0, 0), 5);
        due.is("about(0, 2)", x.about(0, 2), 0);
        state(due, x, 0, 3, 9);
        x.go(3);
        state(due, x, 0, 3, 9);
        x.go(1);
        state(due, x, 0, 0, -1);
        due.is("about(0, 4)", x.about(0, 4), 1);
    }

    /** An OPEN BRIDGE lets one a MINUTE through: the one there longest, of like ones the least number. */
    private static void manyShipsAtOnce(Due due) {
        RiverBridges x = new RiverBridges();
        x.bridge(10, 9, 1, 1, 0, 1);
        x.keeper(0);
        int[] comes = {4, 3, 3, 0, 2, 4, 13};
        int[] wanted = {13, 11, 12, 9, 10, 14, 15};
        for (int c : comes) {
            x.ship(11, true, c);
        }
        x.go(9);
        due.is("about(0, 2)", x.about(0, 2), 6);
        x.go(6);
        state(due, x, 0, 2, -1);
        x.go(1);
        state(due, x, 0, 3, 16);
        for (int s = 0; s < comes.length; s++) {
            due.is("through(" + s + ", 0)", x.through(s, 0), wanted[s]);
            due.is("told(" + s + ", 2)", x.told(s, 2), wanted[s] - comes[s]);
        }
        due.is("about(0, 4)", x.about(0, 4), 1);
    }

    /** Those that come under it all go, in whatever state it is, and one more, if it is OPEN. */
    private static void underAndOpen(Due due) {
        RiverBridges x = new RiverBridges();
        Due.tide(x, 60, 0);
        x.bridge(100, 2, 2, 1, 0, 1);
        x.keeper(0);
        x.ship(60, true, 0);
        x.ship(40, true, 1);
        x.ship(41, true, 1);
        x.ship(40, true, 2);
        x.ship(40, true, 2);
        x.ship(60, true, 2);
        x.ship(48, true, 2);
        x.go(3);
        int[] wanted = {2, 1, 1, 2, 2, -1, -1};
        for (int s = 0; s < wanted.length; s++) {
            due.is("through(" + s + ", 0)", x.through(s, 0), wanted[s]);
        }
        x.go(2);
        due.is("the least number of like ones", x.through(5, 0), 3);
        due.is("then the other one", x.through(6, 0), 4);
        x.ship(60, true, 19);
        x.ship(61, true, 19);
        x.go(15);
        due.is("HIGH and LEVEL are more than CLEAR", x.through(7, 0), -1);
        x.go(1);
        due.is("HIGH and LEVEL are CLEAR, while it is OPENING", x.through(7, 0), 20);
        state(due, x, 0, 1, 21);
        x.go(1);
        due.is("through(8, 0)", x.through(8, 0), 21);
    }

    private static RiverBridges barred(String text, int opens, int shuts, int comes) {
        RiverBridges x = new RiverBridges();
        Due.timetable(x, text);
        x.bridge(0, opens, shuts, 1, 0, 1);
        x.keeper(0);
        x.ship(1, true, comes);
        return x;
    }

    /** None of the MINUTES m to m + OPENS + SHUTS may be of the SHUT TIMES. */
    private static void barKeepsShut(Due due) {
        RiverBridges just = barred("bridge 0 bar 26 to 30;", 2, 3, 20);
        just.go(21);
        state(due, just, 0, 1, 22);
        RiverBridges late = barred("bridge 0 bar 25 to 30;", 2, 3, 20);
        late.go(30);
        state(due, late, 0, 0, -1);
        due.is("told(0, 2)", late.told(0, 2), 10);
        late.go(1);
        state(due, late, 0, 1, 32);
        RiverBridges train = barred("bridge 0 train 20;", 1, 1, 18);
        train.go(23);
        state(due, train, 0, 0, -1);
        train.go(1);
        state(due, train, 0, 1, 24);
        RiverBridges other = barred("bridge 1 bar 0 to 1440;", 1, 1, 18);
        other.go(19);
        state(due, other, 0, 1, 19);
    }

    /** One of the MINUTES m + 1 to m + SHUTS is of the SHUT TIMES: an OPEN one is SHUTTING, WANTED or not. */
    private static void barShuts(Due due) {
        RiverBridges x = barred("bridge 0 bar 30 to 33;", 1, 3, 20);
        for (int comes = 20; comes < 40; comes++) {
            x.ship(1, true, comes);
        }
        x.go(27);
        state(due, x, 0, 2, -1);
        x.go(1);
        state(due, x, 0, 3, 30);
        due.is("one goes in the last MINUTE too", x.through(6, 0), 27);
        x.go(5);
        state(due, x, 0, 0, -1);
        x.go(1);
        state(due, x, 0, 1, 34);
        due.is("about(0, 4)", x.about(0, 4), 2);
        due.is("none goes through meanwhile", x.through(7, 0), -1);
        x.go(1);
        due.is("through(7, 0)", x.through(7, 0), 34);
        RiverBridges y = barred("bridge 0 bar 30 to 31;", 1, 1, 27);
        y.ship(1, true, 27);
        y.ship(1, true, 27);
        y.go(29);
        state(due, y, 0, 2, -1);
        y.go(1);
        state(due, y, 0, 3, 30);
        y.go(1);
        state(due, y, 0, 0, -1);
        y.go(1);
        state(due, y, 0, 1, 32);
    }

    private static RiverBridges bridges(int n) {
        RiverBridges x = new RiverBridges();
        for (int b = 0; b < n; b++) {
            x.bridge(10, 1, 1, 10, 0, 1);
        }
        return x;
    }

    /** The nearest one that is WANTED and has no KEEPER, of two the lower one. */
    private static void nearestKeeper(Due due) {
        RiverBridges x = bridges(5);
        x.keeper(2);
        x.ship(11, true, 3);
        x.ship(11, false, 3);
        x.go(3);
        keeper(due, x, 0, 2, -1, -1);
        x.go(1);
        keeper(due, x, 0, -1, 0, 13);
        x.go(9);
        keeper(due, x, 0, -1, 0, 13);
        x.go(1);
        keeper(due, x, 0, 0, -1, -1);
        state(due, x, 0, 1, 14);
        x.go(1);
        due.is("through(0, 0)", x.through(0, 0), 14);
        state(due, x, 0, 3, 15);
        keeper(due, x, 0, 0, -1, -1);
        x.go(1);
        state(due, x, 0, 0, -1);
        keeper(due, x, 0, -1, 4, 35);

        RiverBridges y = bridges(5);
        y.keeper(1);
        y.ship(11, false, 0);
        y.ship(11, true, 0);
        y.go(1);
        keeper(due, y, 0, -1, 0, 5);
    }

    private static void keepersByNumber(Due due) {
        RiverBridges x = bridges(4);
        x.legs(3);
        x.keeper(2);
        x.keeper(1);
        x.keeper(2);
        x.keeper(2);
        x.ship(11, true, 0);
        x.go(1);
        keeper(due, x, 0, -1, 0, 6);
        keeper(due, x, 1, 1, -1, -1);
        keeper(due, x, 2, 2, -1, -1);
        x.ship(11, false, 1);
        x.go(1);
        keeper(due, x, 1, -1, 3, 7);
        keeper(due, x, 2, 2, -1, -1);
        keeper(due, x, 3, 2, -1, -1);
        RiverBridges y = bridges(3);
        y.keeper(1);
        y.keeper(1);
        y.keeper(1);
        y.ship(11, true, 0);
        y.ship(11, false, 0);
        y.go(1);
        keeper(due, y, 0, -1, 0, 5);
        keeper(due, y, 1, -1, 2, 5);
        keeper(due, y, 2, 1, -1, -1);
    }

    /** A KEEPER does not leave a BRIDGE that is WANTED or not SHUT, nor turn on the way. */
    private static void keeperStays(Due due) {
        RiverBridges x = bridges(2);
        x.keeper(0);
        Due.timetable(x, "bridge 0 bar 0 to 50;");
        x.ship(11, true, 0);
        x.ship(11, false, 0);
        x.go(50);
        keeper(due, x, 0, 0, -1, -1);
        state(due, x, 0, 0, -1);
        x.go(1);
        state(due, x, 0, 1, 51);
        x.go(1);
        keeper(due, x, 0, 0, -1, -1);
        x.go(1);
        keeper(due, x, 0, -1, 1, 57);
        x.ship(11, true, 53);
        x.go(4);
        keeper(due, x, 0, -1, 1, 57);
        due.is("about(0, 2)", x.about(0, 2), 1);
        state(due, x, 0, 0, -1);
        RiverBridges y = bridges(1);
        y.ship(11, true, 0);
        y.go(1440);
        state(due, y, 0, 0, -1);
        due.is("told(0, 2) without a keeper", y.told(0, 2), 1440);
    }

    private static void cars(Due due) {
        RiverBridges x = new RiverBridges();
        x.bridge(0, 2, 2, 1, 3, 5);
        x.bridge(400, 1, 1, 1, 60, 1);
        x.keeper(0);
        x.ship(1, true, 1);
        int[] waiting = {0, 3, 6, 9, 12, 10, 8, 6, 4, 2, 0, 0};
        int together = 0;
        for (int m = 0; m < waiting.length; m++) {
            x.go(1);
            together += waiting[m];
            due.is("about(0, 3) behind MINUTE " + m, x.about(0, 3), waiting[m]);
            due.is("about(0, 5) behind MINUTE " + m, x.about(0, 5), together);
            due.is("about(1, 3) behind MINUTE " + m, x.about(1, 3), 59 * (m + 1));
        }
        RiverBridges y = new RiverBridges();
        y.bridge(0, 1, 1, 1, 60, 1);
        y.go(1440);
        due.is("about(0, 3) behind a day", y.about(0, 3), 59 * 1440);
        due.is("about(0, 5) behind a day", y.about(0, 5), 59 * 1440 * 1441 / 2);
    }

    /** WAY is that of the lower one of the two BRIDGES. */
    private static void ways(Due due) {
        RiverBridges x = new RiverBridges();
        x.bridge(100, 1, 1, 7, 0, 1);
        x.bridge(100, 1, 1, 20, 0, 1);
        x.bridge(100, 1, 1, 60, 0, 1);
        x.ship(0, true, 5);
        x.ship(0, false, 6);
        x.go(6);
        ship(due, x, 0, 2, 1, 0, -1);
        ship(due, x, 1, 0, 2, 0, -1);
        x.go(1);
        ship(due, x, 1, 2, 1, 0, -1);
        x.go(100);
        int[][] wanted = {{5, 12, 32}, {33, 26, 6}};
        for (int s = 0; s < 2; s++) {
            for (int b = 0; b < 3; b++) {
                due.is("through(" + s + ", " + b + ")", x.through(s, b), wanted[s][b]);
            }
        }
        ship(due, x, 0, 3, -1, 0, 32);
        ship(due, x, 1, 3, -1, 0, 33);
    }

    /** In MINUTE 1440 nothing more is done. */
    private static void endOfDay(Due due) {
        RiverBridges x = bridges(2);
        x.keeper(0);
        x.ship(0, true, 1440);
        x.ship(0, true, 1430);
        x.ship(0, true, 1429);
        x.ship(11, true, 1439);
        due.is("go(1439)", x.go(1439), 1439);
        due.is("go beyond the day", x.go(1440), 1440);
        due.is("go at its end", x.go(0), 1440);
        due.is("go at its end", x.go(1440), 1440);
        ship(due, x, 0, 0, 0, 0, -1);
        ship(due, x, 1, 2, 1, 0, -1);
        ship(due, x, 2, 3, -1, 0, 1439);
        ship(due, x, 3, 1, 0, 1, -1);
        state(due, x, 0, 1, 1440);
    }
}
