/** The boundary cases of promises 12 and 18, sentence by sentence: LEVELS and SOONEST. */
public final class ForetellingEdgesTest {
    private static final int LEAST_INT = Integer.MIN_VALUE;
    private static final int MOST_INT = Integer.MAX_VALUE;

    public static void main(String[] args) {
        Due due = new Due();
        level(due);
        asTold(due);
        noBridge(due);
        whateverStands(due);
        underItAtOnce(due);
        underItLater(due);
        opened(due);
        shutTimes(due);
        firstOfBoth(due);
        ways(due);
        upTo1439(due);
        never(due);
        changesNothing(due);
        due.end();
    }

    private static void level(Due due) {
        due.sentence("LEVEL in a MINUTE (0 to 1440); NONE: another one.");
        RiverBridges x = new RiverBridges();
        byte[] bytes = new byte[25];
        bytes[0] = 3;
        bytes[24] = 100;
        Due.feedBytes(x, bytes);
        x.tide();
        for (int round = 0; round < 2; round++) {
            due.is("level(0)", x.level(0), 3);
            due.is("level(1)", x.level(1), 3);
            due.is("level(20)", x.level(20), 2);
            due.is("level(1380)", x.level(1380), 0);
            due.is("level(1439)", x.level(1439), 98);
            due.is("level(1440)", x.level(1440), 100);
            for (int m : new int[] {-1, -60, 1441, 1500, LEAST_INT, MOST_INT}) {
                due.is("level(" + m + ")", x.level(m), -1);
            }
            x.go(1440);
        }
    }

    private static void asTold(Due due) {
        due.sentence("NONE: never, no BRIDGE, or they are not as told.");
        RiverBridges x = new RiverBridges();
        x.bridge(400, 1, 1, 1, 0, 1);
        for (int high : new int[] {-1, 501, 65536, LEAST_INT, MOST_INT}) {
            due.is("HIGH " + high, x.soonest(high, true, 0), -1);
        }
        for (int minute : new int[] {-1, -2, -100, 1441, 2880, LEAST_INT, MOST_INT}) {
            due.is("MINUTE " + minute, x.soonest(0, true, minute), -1);
            due.is("MINUTE " + minute + ", not under it", x.soonest(500, true, minute), -1);
        }
        due.is("HIGH 0", x.soonest(0, true, 0), 0);
        due.is("HIGH 500", x.soonest(500, false, 0), 1);
        due.is("MINUTE 1439", x.soonest(0, false, 1439), 1439);
        due.is("MINUTE 1440: up to MINUTE 1439, or never", x.soonest(0, false, 1440), -1);
    }

    private static void noBridge(Due due) {
        due.sentence("NONE: never, no BRIDGE, or they are not as told.");
        RiverBridges x = new RiverBridges();
        due.is("up", x.soonest(0, true, 0), -1);
        due.is("down", x.soonest(0, false, 0), -1);
        x.go(1440);
        due.is("behind the day", x.soonest(0, true, 0), -1);
        RiverBridges eight = Due.river(8);
        due.is("eight, up", eight.soonest(11, true, 0), 78);
        due.is("eight, down", eight.soonest(11, false, 0), 78);
    }

    private static void whateverStands(Due due) {
        due.sentence("SOONEST of a SHIP at its first BRIDGE in a MINUTE, were there KEEPERS at all BRIDGES, no other SHIP, and all of them SHUT then:");
        RiverBridges x = new RiverBridges();
        x.bridge(10, 3, 3, 1, 0, 1);
        due.is("without a KEEPER", x.soonest(11, true, 0), 3);
        x.keeper(0);
        for (int s = 0; s < 40; s++) {
            x.ship(11, true, 0);
        }
        due.is("though there are forty SHIPS", x.soonest(11, true, 0), 3);
        x.go(5);
        due.is("it is OPEN", x.about(0, 0), 2);
        due.is("though it is OPEN now", x.soonest(11, true, 5), 8);
        due.is("for a MINUTE that is gone by", x.soonest(11, true, 0), 3);
        x.go(1440);
        due.is("behind the day", x.soonest(11, true, 0), 3);
    }

    private static void underItAtOnce(Due due) {
        due.sentence("at each BRIDGE, if it comes under it, it goes THROUGH in that MINUTE;");
        RiverBridges x = new RiverBridges();
        Due.tide(x, 100, 100);
        Due.timetable(x, "bridge 0 bar 0 to 1440;");
        x.bridge(400, 9, 9, 1, 0, 1);
        due.is("HIGH and LEVEL are CLEAR, in its SHUT TIMES", x.soonest(300, true, 0), 0);
        due.is("HIGH and LEVEL are more by one", x.soonest(301, true, 60), 61);
        due.is("LEVEL is 0", x.soonest(400, true, 120), 120);
        due.is("LEVEL is 0, one more", x.soonest(401, true, 120), -1);
    }

    private static void underItLater(Due due) {
        due.sentence("else in the first MINUTE m behind it in which it comes under it,");
        RiverBridges x = new RiverBridges();
        Due.tide(x, 60, 0, 0, 0, 60);
        Due.timetable(x, "bridge 0 bar 0 to 1440;");
        x.bridge(60, 9, 9, 1, 0, 1);
        for (int high = 1; high <= 60; high++) {
            due.is("HIGH " + high, x.soonest(high, true, 0), high);
        }
        due.is("HIGH 61", x.soonest(61, true, 0), -1);
        due.is("the LEVEL rises", x.soonest(60, true, 180), 180);
        due.is("the LEVEL has risen", x.soonest(60, true, 181), 300);
    }

    private static void opened(Due due) {
        due.sentence("or for which m - OPENS is not ahead of that in which it came there,");
        for (int opens : new int[] {1, 9}) {
            RiverBridges x = new RiverBridges();
            x.bridge(0, opens, 9, 1, 0, 1);
            due.is("OPENS " + opens + ", MINUTE 0", x.soonest(1, true, 0), opens);
            due.is("OPENS " + opens + ", MINUTE 700", x.soonest(1, false, 700), 700 + opens);
        }
    }

    private static int soonest(int opens, int shuts, String text, int minute) {
        RiverBridges x = new RiverBridges();
        Due.timetable(x, text);
        x.bridge(0, opens, shuts, 1, 0, 1);
        return x.soonest(1, true, minute);
    }

    private static void shutTimes(Due due) {
        due.sentence("and none of m - OPENS to m + SHUTS is of the SHUT TIMES;");
        int[][] turns = {{1, 1}, {9, 1}, {1, 9}, {9, 9}, {3, 4}};
        for (int[] turn : turns) {
            int opens = turn[0];
            int shuts = turn[1];
            String bar = "bridge 0 bar 100 to 120;";
            due.is("just ahead of the bar", soonest(opens, shuts, bar, 99 - opens - shuts), 99 - shuts);
            due.is("a MINUTE too late", soonest(opens, shuts, bar, 100 - opens - shuts), 120 + opens);
            due.is("in its last MINUTE", soonest(opens, shuts, bar, 119), 120 + opens);
            due.is("just behind it", soonest(opens, shuts, bar, 120), 120 + opens);
            due.is("a MINUTE later", soonest(opens, shuts, bar, 121), 121 + opens);
            String train = "bridge 0 train 100;";
            due.is("just ahead of the train", soonest(opens, shuts, train, 97 - opens - shuts), 97 - shuts);
            due.is("a MINUTE too late", soonest(opens, shuts, train, 98 - opens - shuts), 103 + opens);
            due.is("in its last MINUTE", soonest(opens, shuts, train, 102), 103 + opens);
            due.is("just behind it", soonest(opens, shuts, train, 103), 103 + opens);
            String gap = "bridge 0 bar 0 to 100 bar " + (101 + opens + shuts) + " to 1440;";
            due.is("a gap that is just wide enough", soonest(opens, shuts, gap, 50), 100 + opens);
            String narrow = "bridge 0 bar 0 to 100 bar " + (100 + opens + shuts) + " to 1439;";
            due.is("a gap that is too narrow", soonest(opens, shuts, narrow, 50), -1);
        }
        due.is("another BRIDGE's bar", soonest(1, 1, "bridge 1 bar 0 to 1440;", 0), 1);
        due.is("a train in MINUTE 0", soonest(1, 1, "bridge 0 train 0;", 0), 4);
    }

    private static void firstOfBoth(Due due) {
        due.sentence("in which it comes under it, or for which m - OPENS is not ahead of that in which it came there,");
        RiverBridges x = new RiverBridges();
        Due.tide(x, 60, 0);
        x.bridge(60, 5, 1, 1, 0, 1);
        due.is("the LEVEL falls first", x.soonest(20, true, 16), 20);
        due.is("both in one MINUTE", x.soonest(20, true, 15), 20);
        due.is("it is OPEN first", x.soonest(20, true, 14), 19);
    }

    private static void ways(Due due) {
        due.sentence("of the BRIDGES between which it goes that of the lower one");
        RiverBridges x = new RiverBridges();
        x.bridge(400, 1, 1, 1, 0, 1);
        x.bridge(400, 1, 1, 60, 0, 1);
        x.bridge(400, 1, 1, 7, 0, 1);
        due.is("up", x.soonest(0, true, 0), 61);
        due.is("down", x.soonest(0, false, 0), 61);
        RiverBridges y = new RiverBridges();
        Due.timetable(y, "bridge 1 bar 61 to 62;");
        y.bridge(10, 1, 1, 60, 0, 1);
        y.bridge(10, 3, 1, 1, 0, 1);
        due.is("up, its own OPENS and SHUT TIMES", y.soonest(11, true, 0), 65);
        due.is("down, its own OPENS and SHUT TIMES", y.soonest(11, false, 0), 64);
    }

    private static void upTo1439(Due due) {
        due.sentence("up to MINUTE 1439, or it never is THROUGH.");
        for (int opens : new int[] {1, 9}) {
            due.is("OPEN in MINUTE 1439", soonest(opens, 9, "", 1439 - opens), 1439);
            due.is("OPEN in MINUTE 1440", soonest(opens, 9, "", 1440 - opens), -1);
        }
        RiverBridges x = new RiverBridges();
        x.bridge(400, 1, 1, 60, 0, 1);
        x.bridge(400, 1, 1, 60, 0, 1);
        due.is("at the second one in MINUTE 1439", x.soonest(0, true, 1379), 1439);
        due.is("at the second one in MINUTE 1440", x.soonest(0, true, 1380), -1);
        due.is("at the second one in MINUTE 1441", x.soonest(0, false, 1381), -1);
        due.is("at the second one in MINUTE 1499", x.soonest(0, false, 1439), -1);
        due.is("at the first one in MINUTE 1440", x.soonest(0, false, 1440), -1);
        RiverBridges tide = new RiverBridges();
        byte[] bytes = new byte[25];
        bytes[23] = 60;
        Due.feedBytes(tide, bytes);
        tide.tide();
        Due.timetable(tide, "bridge 0 bar 1380 to 1440;");
        tide.bridge(60, 1, 1, 1, 0, 1);
        due.is("under it in MINUTE 1439", tide.soonest(59, true, 1381), 1439);
        due.is("under it in MINUTE 1440", tide.soonest(60, true, 1381), -1);
        RiverBridges eight = new RiverBridges();
        for (int b = 0; b < 8; b++) {
            eight.bridge(10, 9, 9, 60, 0, 1);
        }
        due.is("the longest way, just in time", eight.soonest(11, true, 1439 - 7 * 60 - 8 * 9), 1439);
        due.is("the longest way, too late", eight.soonest(11, true, 1440 - 7 * 60 - 8 * 9), -1);
    }

    private static void never(Due due) {
        due.sentence("or it never is THROUGH.");
        due.is("a bar for the whole day", soonest(1, 1, "bridge 0 bar 0 to 1440;", 0), -1);
        due.is("a bar to the end but one", soonest(1, 1, "bridge 0 bar 0 to 1438;", 0), 1439);
        due.is("a bar to the end", soonest(1, 1, "bridge 0 bar 0 to 1439;", 0), -1);
        due.is("the last train in the SHUTS", soonest(1, 9, "bridge 0 train 1440;", 1427), 1428);
        due.is("the last train in the SHUTS", soonest(1, 9, "bridge 0 train 1440;", 1428), -1);
        RiverBridges x = new RiverBridges();
        Due.timetable(x, "bridge 1 bar 0 to 1440;");
        x.bridge(10, 1, 1, 1, 0, 1);
        x.bridge(10, 1, 1, 1, 0, 1);
        x.bridge(10, 1, 1, 1, 0, 1);
        due.is("the one in the middle is never OPEN, up", x.soonest(11, true, 0), -1);
        due.is("the one in the middle is never OPEN, down", x.soonest(11, false, 0), -1);
        due.is("but it comes under it", x.soonest(10, false, 0), 2);
    }

    /** It foretells alone: a SHIP of its kind is not there then. */
    private static void changesNothing(Due due) {
        due.sentence("in which MINUTE a SHIP so HIGH, at its first BRIDGE in a MINUTE (0 to 1440), is THROUGH all;");
        RiverBridges x = Due.river(2);
        x.keeper(0);
        due.is("soonest", x.soonest(11, true, 0), 12);
        due.is("soonest again", x.soonest(11, true, 0), 12);
        due.is("no SHIP", x.count(2), 0);
        x.go(20);
        due.is("it was not OPENING", x.about(0, 4), 0);
    }
}
