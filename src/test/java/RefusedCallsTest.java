import java.util.NoSuchElementException;
import java.util.function.Consumer;
import java.util.function.ToIntFunction;

/**
 * Calls that are refused, or that throw, change nothing: of two like objects one gets such a call, the other
 * one does not, and both answer alike, at once and later.
 */
public final class RefusedCallsTest {
    private static final int LEAST_INT = Integer.MIN_VALUE;
    private static final int MOST_INT = Integer.MAX_VALUE;
    private static final int[] FAR = {-1, 1441, LEAST_INT, MOST_INT};

    private final Due due = new Due();
    private final int minute;

    private RefusedCallsTest(int minute) {
        this.minute = minute;
    }

    public static void main(String[] args) {
        for (int minute : new int[] {0, 1, 37, 1440}) {
            RefusedCallsTest test = new RefusedCallsTest(minute);
            test.thrown();
            test.refusedInAnyMinute();
            test.refusedForNumbers();
            test.refusedWhenFull();
            test.asked();
            if (minute > 0) {
                test.refusedBehindMinuteNought();
            } else {
                test.emptyTheTapeAlone();
            }
            test.due.end();
        }
    }

    /** Eight BRIDGES, four KEEPERS, forty SHIPS, a TIDE, a TIMETABLE, and a tape of 421 bytes. */
    private RiverBridges full() {
        RiverBridges x = river();
        for (int b = 4; b < 8; b++) {
            x.bridge(40 + b, 1 + b, 9 - b, 1, b, 9);
        }
        x.keeper(7);
        x.keeper(4);
        for (int s = 3; s < 40; s++) {
            x.ship(30 + s, s % 3 != 0, 2 * s);
        }
        tapeOf(x, 421);
        x.go(minute);
        return x;
    }

    /** A river that has room for more of each. */
    private RiverBridges half() {
        RiverBridges x = river();
        tapeOf(x, 30);
        x.go(minute);
        return x;
    }

    private static RiverBridges river() {
        RiverBridges x = new RiverBridges();
        Due.tide(x, 10, 40, 20, 60);
        Due.timetable(x, "bridge 0 train 30 bar 50 to 60;bridge 2 bar 3 to 20;");
        for (int b = 0; b < 4; b++) {
            x.bridge(40 + b, 1 + b, 1 + b, 2 + b, 5 * b, 7);
        }
        x.legs(3);
        x.keeper(0);
        x.keeper(3);
        x.ship(60, true, 0);
        x.ship(25, false, 2);
        x.ship(70, false, 1440);
        return x;
    }

    private static void tapeOf(RiverBridges x, int size) {
        Due.feedText(x, "bridge 1 train 9;" + " ".repeat(size - 17));
    }

    /** All that can be asked, in few enough calls that an object does not see more than 512. */
    private static String answers(RiverBridges x) {
        StringBuilder all = new StringBuilder();
        for (int what = 0; what < 7; what++) {
            all.append(x.count(what)).append(' ');
        }
        all.append(x.fault());
        for (int m = 0; m <= 240; m += 20) {
            all.append(" level ").append(x.level(m));
        }
        for (int b = 0; b < 8; b++) {
            all.append(" bridge ").append(x.barred(b, 9)).append(x.barred(b, 30)).append(x.barred(b, 55));
            for (int what = 0; what < 6; what++) {
                all.append(' ').append(x.about(b, what));
            }
        }
        for (int k = 0; k < 4; k++) {
            all.append(" keeper ").append(x.keeps(k, 0)).append(' ').append(x.keeps(k, 1)).append(' ').append(x.keeps(k, 2));
        }
        for (int s = 0; s < x.count(2); s += s < 3 ? 1 : 4) {
            all.append(" ship");
            for (int what = 0; what < 4; what++) {
                all.append(' ').append(x.told(s, what));
            }
            all.append(' ').append(x.through(s, 0)).append(' ').append(x.through(s, 3));
        }
        all.append(" soonest ").append(x.soonest(60, true, 0)).append(' ').append(x.soonest(60, false, 0));
        // Last of all, what stands on the tape, as far as a TIMETABLE can tell it.
        x.end(Math.min(400, x.count(6)));
        return all.append(" tape ").append(x.timetable()).toString();
    }

    private void alike(String what, RiverBridges x, RiverBridges twin) {
        String got = answers(x);
        String want = answers(twin);
        due.is(what + " in MINUTE " + minute + " changes nothing [" + got + "] [" + want + "]", got.equals(want), true);
    }

    private void changesNothing(String what, boolean isFull, Consumer<RiverBridges> call) {
        for (int later : new int[] {0, 1, 60}) {
            RiverBridges x = isFull ? full() : half();
            RiverBridges twin = isFull ? full() : half();
            call.accept(x);
            x.go(later);
            twin.go(later);
            alike(what, x, twin);
        }
    }

    private void thrown() {
        due.sentence("A call that throws changes nothing.");
        for (int far : new int[] {-1, 40, LEAST_INT, MOST_INT}) {
            changesNothing("told(" + far + ", 0)", true, x -> throwing(x, far, 0));
            changesNothing("told(0, " + far + ")", true, x -> throwing(x, 0, far));
        }
        changesNothing("told(3, 0)", false, x -> throwing(x, 3, 0));
        changesNothing("told(0, 4)", false, x -> throwing(x, 0, 4));
    }

    private void throwing(RiverBridges x, int s, int what) {
        boolean thrown = false;
        try {
            x.told(s, what);
        } catch (NoSuchElementException e) {
            thrown = true;
        }
        due.is("told(" + s + ", " + what + ") throws", thrown, true);
    }

    private void refuses(String what, boolean isFull, int want, ToIntFunction<RiverBridges> call) {
        changesNothing(what, isFull, x -> due.is(what + " in MINUTE " + minute, call.applyAsInt(x), want));
    }

    private void refusedInAnyMinute() {
        due.sentence("NONE, and none come, if it would have more than 440.");
        refuses("feed to 421 bytes", true, -1, x -> x.feed(-1, -1, -1, -1, -1));
        due.sentence("false, if it has not so many, or n is below 0.");
        for (int n : new int[] {-1, 31, LEAST_INT, MOST_INT}) {
            refuses("end(" + n + ")", false, 0, x -> x.end(n) ? 1 : 0);
        }
        refuses("end(422)", true, 0, x -> x.end(422) ? 1 : 0);
        due.sentence("MINUTE then; NONE: another n.");
        for (int n : FAR) {
            refuses("go(" + n + ")", true, -1, x -> x.go(n));
        }
    }

    private void refusedForNumbers() {
        due.sentence("a number is not as told, or it COMES ahead of MINUTE.");
        for (int n : FAR) {
            refuses("ship, HIGH " + n, false, -1, x -> x.ship(n, true, 1440));
            refuses("ship, COMES " + n, false, -1, x -> x.ship(1, false, n));
        }
        refuses("ship ahead of MINUTE", false, -1, x -> x.ship(1, true, minute - 1));
        due.sentence("NONE: there are 4, no such BRIDGE, or MINUTE is not 0.");
        for (int b : new int[] {-1, 4, 8, LEAST_INT, MOST_INT}) {
            refuses("keeper(" + b + ")", false, -1, x -> x.keeper(b));
        }
        due.sentence("false, if they are not as told, or MINUTE is not 0.");
        for (int n : new int[] {0, -1, 31, LEAST_INT, MOST_INT}) {
            refuses("legs(" + n + ")", false, 0, x -> x.legs(n) ? 1 : 0);
        }
        due.sentence("NONE: there are 8, a number is not as told, or MINUTE is not 0.");
        refuses("bridge, CLEAR 401", false, -1, x -> x.bridge(401, 1, 1, 1, 0, 1));
        refuses("bridge, OPENS 0", false, -1, x -> x.bridge(0, 0, 1, 1, 0, 1));
        refuses("bridge, SHUTS 10", false, -1, x -> x.bridge(0, 1, 10, 1, 0, 1));
        refuses("bridge, WAY 61", false, -1, x -> x.bridge(0, 1, 1, 61, 0, 1));
        refuses("bridge, CARS -1", false, -1, x -> x.bridge(0, 1, 1, 1, -1, 1));
        refuses("bridge, FLOW 100", false, -1, x -> x.bridge(0, 1, 1, 1, 0, 100));
    }

    private void refusedWhenFull() {
        due.sentence("NONE: there are 8,");
        refuses("a ninth BRIDGE", true, -1, x -> x.bridge(0, 1, 1, 1, 0, 1));
        due.sentence("NONE: there are 4,");
        refuses("a fifth KEEPER", true, -1, x -> x.keeper(0));
        due.sentence("NONE: there are 40,");
        refuses("a SHIP too many", true, -1, x -> x.ship(0, true, 1440));
    }

    private void refusedBehindMinuteNought() {
        due.sentence("or MINUTE is not 0.");
        refuses("bridge", false, -1, x -> x.bridge(0, 1, 1, 1, 0, 1));
        refuses("keeper", false, -1, x -> x.keeper(0));
        refuses("legs", false, 0, x -> x.legs(4) ? 1 : 0);
        due.sentence("(empty then, here and below)");
        emptiesTheTape("tide()", 0, x -> {
            x.end(0);
            return Due.tide(x, 99, 99, 99) ? 1 : 0;
        });
        emptiesTheTape("timetable()", -500, RiverBridges::timetable);
    }

    private void emptyTheTapeAlone() {
        due.sentence("(empty then, here and below)");
        emptiesTheTape("tide() of 30 bytes", 0, x -> x.tide() ? 1 : 0);
        emptiesTheTape("tide() with 101", 0, x -> {
            x.end(0);
            return Due.tide(x, 99, 101, 99) ? 1 : 0;
        });
    }

    /** All else is as in a twin whose tape was cut to nothing. */
    private void emptiesTheTape(String what, int want, ToIntFunction<RiverBridges> call) {
        RiverBridges x = half();
        RiverBridges twin = half();
        due.is(what, call.applyAsInt(x), want);
        twin.end(0);
        x.go(20);
        twin.go(20);
        alike(what, x, twin);
    }

    /** Calls that ask alone, with numbers that are there and numbers that are not. */
    private void asked() {
        due.sentence("Nothing is promised beyond the answers and state changes described above");
        for (int n : new int[] {0, 1, 7, 40, -1, LEAST_INT, MOST_INT}) {
            changesNothing("asking with " + n, true, x -> {
                x.fault();
                x.level(n);
                x.barred(n, n);
                x.about(n, n);
                x.through(n, n);
                x.keeps(n, n);
                x.soonest(n, true, n);
                x.soonest(n, false, 0);
                x.count(n);
            });
        }
    }
}
