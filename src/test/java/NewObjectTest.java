/** Promises 1 and 19: a new object, and count. */
public final class NewObjectTest {
    public static void main(String[] args) {
        Due due = new Due();
        newObject(due);
        counts(due);
        lastCalls(due);
        due.end();
    }

    private static void newObject(Due due) {
        RiverBridges x = new RiverBridges();
        for (int what = 0; what <= 6; what++) {
            due.is("count(" + what + ") of a new object", x.count(what), 0);
        }
        due.is("count(-1)", x.count(-1), -1);
        due.is("count(7)", x.count(7), -1);
        due.is("count(least int)", x.count(Integer.MIN_VALUE), -1);
        due.is("fault()", x.fault(), 0);
        for (int m = 0; m <= 1440; m += 30) {
            due.is("level(" + m + ")", x.level(m), 0);
        }
        due.is("about(0, 0)", x.about(0, 0), -1);
        due.is("keeps(0, 0)", x.keeps(0, 0), -1);
        due.is("through(0, 0)", x.through(0, 0), -1);
        due.is("barred(0, 0)", x.barred(0, 0), -1);
        due.noneSuch(x, 0, 0);
        due.is("go(1440) without a bridge", x.go(1440), 1440);

        RiverBridges y = new RiverBridges();
        y.bridge(0, 1, 1, 1, 0, 1);
        for (int m = 0; m <= 1440; m += 4) {
            due.is("barred(0, " + m + ")", y.barred(0, m), 0);
        }
        y.bridge(0, 1, 1, 1, 0, 1);
        y.keeper(0);
        y.ship(500, false, 0);
        y.go(1);
        due.is("LEGS are 5 at first", y.keeps(0, 2), 5);
    }

    private static void lastCalls(Due due) {
        due.sentence("An object is used for at most 512 calls after it has been made;");
        RiverBridges x = new RiverBridges();
        x.bridge(10, 2, 3, 1, 7, 9);
        x.keeper(0);
        x.ship(11, true, 100);
        for (int i = 4; i <= 439; i += 4) {
            due.is("call " + i + ": feed", x.feed(0x62726964, 0x67652030, 0x20747261, 0x696e2032, 0x303b0000), 20);
            due.is("end", x.end(18), true);
            due.is("timetable", x.timetable(), 1);
            due.is("soonest", x.soonest(11, true, 100), 102);
        }
        for (int i = 440; i <= 510; i++) {
            due.is("call " + i + ": go", x.go(2), 2 * (i - 439));
        }
        due.is("call 511: through", x.through(0, 0), 102);
        due.is("call 512: about", x.about(0, 4), 1);
    }

    private static void counts(Due due) {
        RiverBridges x = new RiverBridges();
        x.bridge(10, 1, 1, 1, 0, 1);
        x.bridge(10, 1, 1, 1, 0, 1);
        x.keeper(1);
        x.keeper(1);
        x.keeper(1);
        x.ship(10, true, 0);
        x.ship(11, true, 0);
        x.ship(11, true, 3);
        x.ship(11, true, 900);
        x.feed(0, 0, 0, 0, 0);
        due.is("count(1)", x.count(1), 2);
        due.is("count(2)", x.count(2), 4);
        due.is("count(3)", x.count(3), 3);
        due.is("count(4) ahead of all", x.count(4), 0);
        due.is("count(5) ahead of all", x.count(5), 0);
        due.is("count(6)", x.count(6), 20);
        x.go(1);
        due.is("count(4): not yet at the second one", x.count(4), 0);
        due.is("count(5) behind a MINUTE", x.count(5), 1);
        x.go(1);
        due.is("count(0)", x.count(0), 2);
        due.is("count(4): one is through", x.count(4), 1);
        due.is("count(5) is the most of all", x.count(5), 2);
        x.go(100);
        due.is("count(4): all that have come", x.count(4), 3);
        int most = Math.max(x.told(1, 2), x.told(2, 2));
        due.is("count(5) stays behind the last one", x.count(5), most);
    }
}
