/** Promise 18: soonest. */
public final class SoonestTest {
    public static void main(String[] args) {
        Due due = new Due();
        wrongInputs(due);
        oneBridge(due);
        shutTimes(due);
        tide(due);
        ways(due);
        endOfDay(due);
        due.end();
    }

    private static void wrongInputs(Due due) {
        RiverBridges x = new RiverBridges();
        due.is("soonest without a bridge", x.soonest(0, true, 0), -1);
        x.bridge(400, 1, 1, 1, 0, 1);
        due.is("HIGH -1", x.soonest(-1, true, 0), -1);
        due.is("HIGH 501", x.soonest(501, true, 0), -1);
        due.is("MINUTE -1", x.soonest(0, true, -1), -1);
        due.is("MINUTE 1441", x.soonest(0, true, 1441), -1);
        due.is("far MINUTE", x.soonest(0, true, Integer.MAX_VALUE), -1);
        due.is("the least", x.soonest(0, false, 0), 0);
        due.is("the most high", x.soonest(500, true, 0), 1);
        due.is("MINUTE 1439, under it", x.soonest(400, true, 1439), 1439);
        due.is("MINUTE 1439, not under it", x.soonest(401, true, 1439), -1);
        due.is("MINUTE 1440", x.soonest(0, true, 1440), -1);
    }

    private static void oneBridge(Due due) {
        RiverBridges x = new RiverBridges();
        x.bridge(50, 4, 3, 1, 0, 1);
        due.is("under it", x.soonest(50, true, 100), 100);
        due.is("OPENS later", x.soonest(51, true, 100), 104);
        x.ship(51, true, 0);
        x.go(500);
        due.is("whatever the MINUTE, SHIPS, KEEPERS", x.soonest(51, true, 100), 104);
        due.is("in MINUTE 500", x.soonest(51, false, 500), 504);
        due.is("a ship without a keeper waits", x.told(0, 2), 500);
    }

    private static void shutTimes(Due due) {
        RiverBridges x = new RiverBridges();
        Due.timetable(x, "bridge 0 bar 30 to 40 train 50;");
        x.bridge(50, 4, 3, 1, 0, 1);
        due.is("just ahead of the bar", x.soonest(51, true, 22), 26);
        due.is("the bar is in the SHUTS", x.soonest(51, true, 23), 44);
        due.is("in the bar", x.soonest(51, true, 35), 44);
        due.is("just behind the bar", x.soonest(51, true, 40), 44);
        due.is("the train is in the SHUTS", x.soonest(51, true, 41), 57);
        due.is("under it in the bar", x.soonest(50, true, 35), 35);
    }

    private static void tide(Due due) {
        RiverBridges x = new RiverBridges();
        Due.tide(x, 60, 0, 60, 0);
        Due.timetable(x, "bridge 0 bar 0 to 100;");
        x.bridge(100, 5, 5, 1, 0, 1);
        due.is("under it when the tide falls", x.soonest(60, true, 0), 20);
        due.is("at once", x.soonest(60, true, 20), 20);
        due.is("the last MINUTE", x.soonest(60, true, 100), 100);
        due.is("opened ahead of the fall", x.soonest(60, true, 101), 106);
        due.is("opened behind the bar", x.soonest(120, true, 0), 105);
        Due.timetable(x, "");
        due.is("the fall is ahead of the opening", x.soonest(60, true, 17), 20);
        due.is("the opening is ahead of the fall", x.soonest(60, true, 14), 19);
    }

    private static void ways(Due due) {
        RiverBridges x = new RiverBridges();
        Due.timetable(x, "bridge 1 train 20;");
        x.bridge(50, 1, 1, 7, 0, 1);
        x.bridge(50, 2, 2, 11, 0, 1);
        x.bridge(50, 3, 3, 60, 0, 1);
        due.is("up, under all", x.soonest(50, true, 0), 18);
        due.is("down, under all", x.soonest(50, false, 0), 18);
        due.is("up", x.soonest(51, true, 0), 24);
        due.is("up, the train", x.soonest(51, true, 8), 39);
        due.is("down, the train", x.soonest(51, false, 0), 33);
        due.is("down, behind the train", x.soonest(51, false, 9), 33);
        due.is("down, later", x.soonest(51, false, 10), 34);
    }

    private static void endOfDay(Due due) {
        RiverBridges x = new RiverBridges();
        x.bridge(50, 2, 9, 60, 0, 1);
        due.is("MINUTE 1437", x.soonest(51, true, 1437), 1439);
        due.is("MINUTE 1438", x.soonest(51, true, 1438), -1);
        x.bridge(50, 1, 1, 60, 0, 1);
        due.is("the second one in MINUTE 1439", x.soonest(50, true, 1379), 1439);
        due.is("the second one in MINUTE 1440", x.soonest(50, true, 1380), -1);
        due.is("the second one far behind the day", x.soonest(50, true, 1439), -1);
        Due.timetable(x, "bridge 0 bar 0 to 1440;");
        due.is("never", x.soonest(51, true, 0), -1);
        Due.timetable(x, "bridge 0 train 1440;");
        due.is("the train is in the SHUTS", x.soonest(51, false, 1365), 1428);
        due.is("the train at the day's end", x.soonest(51, false, 1366), -1);
    }
}
