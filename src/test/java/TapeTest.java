/** Promises 2 and 3: feed and end. The bytes are seen through tide() and timetable(). */
public final class TapeTest {
    public static void main(String[] args) {
        Due due = new Due();
        sizes(due);
        order(due);
        cut(due);
        due.end();
    }

    private static void sizes(Due due) {
        RiverBridges x = new RiverBridges();
        due.is("end(0) of an empty tape", x.end(0), true);
        due.is("end(1) of an empty tape", x.end(1), false);
        due.is("end(-1)", x.end(-1), false);
        for (int n = 20; n <= 440; n += 20) {
            due.is("feed up to " + n, x.feed(1, 2, 3, 4, 5), n);
        }
        due.is("feed to a full tape", x.feed(1, 2, 3, 4, 5), -1);
        due.is("count(6) of a full tape", x.count(6), 440);
        due.is("end(441)", x.end(441), false);
        due.is("end(440)", x.end(440), true);
        due.is("end(421)", x.end(421), true);
        due.is("feed: 441 would be too many", x.feed(1, 2, 3, 4, 5), -1);
        due.is("count(6): none came", x.count(6), 421);
        due.is("end(420)", x.end(420), true);
        due.is("feed to the brim", x.feed(1, 2, 3, 4, 5), 440);
        due.is("end(7)", x.end(7), true);
        due.is("end(8) behind it", x.end(8), false);
        due.is("end(least int)", x.end(Integer.MIN_VALUE), false);
        due.is("end(most int)", x.end(Integer.MAX_VALUE), false);
        due.is("count(6)", x.count(6), 7);
        due.is("feed behind 7", x.feed(-1, -1, -1, -1, -1), 27);
        due.is("go(1)", x.go(1), 1);
        due.is("feed goes in any MINUTE", x.feed(0, 0, 0, 0, 0), 47);
        due.is("end goes in any MINUTE", x.end(3), true);
    }

    private static void order(Due due) {
        RiverBridges x = new RiverBridges();
        x.feed(0x01020304, 0x05060708, 0x090a0b0c, 0x0d0e0f10, 0x11121314);
        x.end(18);
        x.feed(0x15161718, 0x191a1b00, 0, 0, 0);
        x.end(25);
        due.is("tide()", x.tide(), true);
        for (int hour = 0; hour < 25; hour++) {
            int want = hour < 18 ? hour + 1 : hour + 3;
            due.is("level in hour " + hour, x.level(60 * hour), want);
        }
        x.feed(-1, -1, -1, -1, -1);
        x.end(0);
        x.feed(0, 0, 0, 0, 0);
        x.feed(0, 0x00000001, 0x80000000, 0, 0);
        x.end(25);
        due.is("tide() with bytes of 0 behind a cut", x.tide(), true);
        x.feed(0x00000080, 0, 0, 0, 0);
        x.feed(0, 0, 0, 0, 0);
        x.end(25);
        due.is("tide(): a byte of 128 is not below 0", x.tide(), false);
    }

    /** Bytes behind the cut are no more of the tape, whatever they were. */
    private static void cut(Due due) {
        RiverBridges x = new RiverBridges();
        x.feed(0, 0, 0, 0, 0);
        x.feed(0, 0x00ffffff, -1, -1, -1);
        x.end(25);
        due.is("tide() with high bytes behind the cut", x.tide(), true);
        Due.feedText(x, "bridgex");
        x.end(6);
        due.is("timetable() cut in a word", x.timetable(), -7);
        Due.feedText(x, "bridge 77;");
        x.end(8);
        due.is("timetable() cut in a number", x.timetable(), -9);
        Due.feedText(x, "bridge 7;?");
        x.end(9);
        due.is("timetable() cut behind a ;", x.timetable(), 1);
        Due.feedText(x, "a".repeat(440));
        due.is("timetable() of a full tape of letters", x.timetable(), -1);
        due.is("fault()", x.fault(), 2);
        Due.feedText(x, "1".repeat(440));
        due.is("timetable() of a full tape of digits", x.timetable(), -1);
        due.is("fault()", x.fault(), 1);
    }
}
