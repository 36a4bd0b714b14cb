/** Promises 6, 7 and 13: timetable, fault and barred. */
public final class TimetableTest {
    private static final String TRAINS_12 = " train 9".repeat(12);
    private static final String BARS_12 = " bar 1 to 2".repeat(12);

    public static void main(String[] args) {
        Due due = new Due();
        fine(due);
        faults(due);
        overlong(due);
        shutTimes(due);
        stays(due);
        due.end();
    }

    private static void asks(Due due, String text, int answer, int kind) {
        RiverBridges x = new RiverBridges();
        due.is("timetable() of [" + text + "]", Due.timetable(x, text), answer);
        due.is("fault() of [" + text + "]", x.fault(), kind);
        due.is("the tape is empty behind [" + text + "]", x.count(6), 0);
    }

    private static void fault(Due due, String text, int place, int kind) {
        asks(due, text, -1 - place, kind);
    }

    private static void fine(Due due) {
        asks(due, "", 0, 0);
        asks(due, " \n ", 0, 0);
        asks(due, "bridge 0;", 1, 0);
        asks(due, "bridge\n7;bridge 0003 ;", 2, 0);
        asks(due, "\nbridge 1 bar 0 to 1440 train 0 train 1440;\n", 1, 0);
        asks(due, "bridge 1 bar 1439 to 1440;", 1, 0);
        asks(due, "bridge 1" + TRAINS_12 + ";bridge 2" + BARS_12 + ";", 2, 0);
        StringBuilder all = new StringBuilder();
        for (int b = 7; b >= 0; b--) {
            all.append("bridge ").append(b).append(" train 5;");
        }
        asks(due, all.toString(), 8, 0);
        fault(due, all + "bridge 0", all.length() + 7, 4);
        fault(due, all + "bridge 9", all.length() + 7, 3);
        fault(due, all + "bridge", all.length() + 6, 2);
        fault(due, all + "bridge ?", all.length() + 7, 1);
        asks(due, " ".repeat(391) + "bridge 0;", 1, 0);
    }

    private static void faults(Due due) {
        fault(due, "?", 0, 1);
        fault(due, " \t", 1, 1);
        fault(due, "bridge \r0;", 7, 1);
        fault(due, "bridge0;", 0, 1);
        fault(due, "bridge 0bar 1 to 2;", 7, 1);
        fault(due, "bridge 0 bar1 to 2;", 9, 1);
        fault(due, "bridge 00000;", 7, 1);
        fault(due, "Bridge 0;", 0, 1);
        fault(due, "bridgE 0;", 0, 1);
        fault(due, "bridgeA 0;", 0, 1);
        fault(due, "bridgeZ 0;", 0, 1);
        fault(due, "bridge@ 0;", 6, 1);
        fault(due, "bridge[ 0;", 6, 1);
        fault(due, "bridge` 0;", 6, 1);
        fault(due, "bridge{ 0;", 6, 1);
        fault(due, "bridge 0/", 8, 1);
        fault(due, "bridge 0:", 8, 1);
        fault(due, "zebra", 0, 2);
        fault(due, "bridge 0 bar 1 to 2X;", 18, 1);
        fault(due, "bridge -1;", 7, 1);
        fault(due, "bridge " + (char) 200 + ";", 7, 1);
        fault(due, "bridge 0 @", 9, 1);
        fault(due, ";", 0, 2);
        fault(due, "5", 0, 2);
        fault(due, "bar", 0, 2);
        fault(due, "bridges 0;", 0, 2);
        fault(due, "brid ge 0;", 0, 2);
        fault(due, "bridge", 6, 2);
        fault(due, "bridge 0  \n", 11, 2);
        fault(due, "bridge ;", 7, 2);
        fault(due, "bridge bar", 7, 2);
        fault(due, "bridge 0;;", 9, 2);
        fault(due, "bridge 0 bridge 1;", 9, 2);
        fault(due, "bridge 0 1;", 9, 2);
        fault(due, "bridge 0 to 1;", 9, 2);
        fault(due, "bridge 0 bar to 1;", 13, 2);
        fault(due, "bridge 0 bar 1 2;", 15, 2);
        fault(due, "bridge 0 bar 1 bar 2;", 15, 2);
        fault(due, "bridge 0 bar 1 to;", 17, 2);
        fault(due, "bridge 0 bar 1 to 2 to 3;", 20, 2);
        fault(due, "bridge 0 train;", 14, 2);
        fault(due, "bridge 0 train 1 to 2;", 17, 2);
        fault(due, "bridge 8;", 7, 3);
        fault(due, "bridge 9999;", 7, 3);
        fault(due, "bridge 0 bar 1441 to 2;", 13, 3);
        fault(due, "bridge 0 bar 1 to 1441;", 18, 3);
        fault(due, "bridge 0 bar 7 to 7;", 18, 3);
        fault(due, "bridge 0 bar 7 to 6;", 18, 3);
        fault(due, "bridge 0 bar 1440 to 1440;", 21, 3);
        fault(due, "bridge 0 train 1441;", 15, 3);
        fault(due, "bridge 3;bridge 3;", 16, 4);
        fault(due, "bridge 3;bridge 03?", 16, 4);
        fault(due, "bridge 1" + TRAINS_12 + " train 9999;", 105, 4);
        fault(due, "bridge 1" + BARS_12 + " bar x;", 141, 4);
        fault(due, "bridge 1" + BARS_12 + " bar1;", 141, 1);
        fault(due, "bridge 1" + BARS_12 + " to;", 141, 2);
        fault(due, "bridge 1" + " train 9 bar 1 to 2".repeat(6) + " bar;", 123, 4);
    }

    private static void overlong(Due due) {
        String blanks = " ".repeat(391);
        fault(due, blanks + "bridge 0; ", 400, 2);
        fault(due, " ".repeat(401), 400, 2);
        fault(due, " ".repeat(440), 400, 2);
        fault(due, " ".repeat(400) + "?", 400, 2);
        fault(due, " ".repeat(399) + "?" + " ".repeat(40), 399, 1);
        fault(due, " ".repeat(394) + "bridge 0;", 400, 2);
        fault(due, " ".repeat(395) + "bridge 0;", 400, 2);
        fault(due, " ".repeat(395) + "bridgex 0;", 395, 2);
        fault(due, " ".repeat(395) + "bridge0;", 395, 1);
        fault(due, " ".repeat(390) + "bridge 8888;", 397, 3);
        fault(due, " ".repeat(390) + "bridge 00000;", 397, 1);
        fault(due, " ".repeat(390) + "bridge 0007;", 400, 2);
        fault(due, " ".repeat(394) + "bridge", 400, 2);
        asks(due, " ".repeat(400), 0, 0);
    }

    private static void shutTimes(Due due) {
        // An object answers for 512 calls: each hundred MINUTES have one of their own.
        for (int m = 0; m <= 1440; m += 100) {
            shutTimes(due, m, Math.min(m + 99, 1440));
        }
        RiverBridges x = withShutTimes(due);
        due.is("barred(3, 0)", x.barred(3, 0), -1);
        due.is("barred(-1, 0)", x.barred(-1, 0), -1);
        due.is("barred(0, -1)", x.barred(0, -1), -1);
        due.is("barred(0, 1441)", x.barred(0, 1441), -1);
        due.is("timetable() anew", Due.timetable(x, "bridge 2 train 500;"), 1);
        due.is("the older one is gone", x.barred(0, 5), 0);
        due.is("the older one is gone", x.barred(2, 11), 0);
        due.is("the newer one is there", x.barred(2, 500), 1);
    }

    private static RiverBridges withShutTimes(Due due) {
        RiverBridges x = new RiverBridges();
        due.is("timetable()", Due.timetable(x, "bridge 2 bar 0 to 1 bar 10 to 12 bar 12 to 14 train 100 train 0 train 1440 bar 1435 to 1436;"
            + "bridge 0 bar 0 to 1440;"), 2);
        for (int b = 0; b < 3; b++) {
            due.is("barred ahead of a bridge " + b, x.barred(b, 0), -1);
            x.bridge(0, 1, 1, 1, 0, 1);
        }
        return x;
    }

    private static void shutTimes(Due due, int first, int last) {
        RiverBridges x = withShutTimes(due);
        for (int m = first; m <= last; m++) {
            boolean shut = m <= 2 || m >= 10 && m <= 13 || m >= 98 && m <= 102 || m == 1435 || m >= 1438;
            due.is("barred(2, " + m + ")", x.barred(2, m), shut ? 1 : 0);
            due.is("barred(1, " + m + ")", x.barred(1, m), 0);
            due.is("barred(0, " + m + ")", x.barred(0, m), m < 1440 ? 1 : 0);
        }
    }

    private static void stays(Due due) {
        RiverBridges x = new RiverBridges();
        x.bridge(0, 1, 1, 1, 0, 1);
        x.bridge(0, 1, 1, 1, 0, 1);
        Due.timetable(x, "bridge 0 train 50;");
        due.is("timetable() with a FAULT", Due.timetable(x, "bridge 0 train 90;bridge 1 train 90;bridge 1;"), -44);
        due.is("fault()", x.fault(), 4);
        due.is("it stays: barred(0, 50)", x.barred(0, 50), 1);
        due.is("it stays: barred(0, 90)", x.barred(0, 90), 0);
        due.is("it stays: barred(1, 90)", x.barred(1, 90), 0);
        due.is("another FAULT", Due.timetable(x, "bridge 0 train 91"), -18);
        due.is("it stays: barred(0, 50)", x.barred(0, 50), 1);
        due.is("fault()", x.fault(), 2);
        x.go(1);
        due.is("timetable() in MINUTE 1", Due.timetable(x, "?"), -500);
        due.is("fault() is the one ahead of it", x.fault(), 2);
        due.is("the tape is empty then, too", x.count(6), 0);
        due.is("it stays: barred(0, 50)", x.barred(0, 50), 1);
    }
}
