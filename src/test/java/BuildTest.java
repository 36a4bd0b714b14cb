/** Promises 4, 8, 9 and 10: bridge, keeper, legs and ship. */
public final class BuildTest {
    private static final int[] LEAST = {0, 1, 1, 1, 0, 1};
    private static final int[] MOST = {400, 9, 9, 60, 60, 99};

    public static void main(String[] args) {
        Due due = new Due();
        bridges(due);
        keepers(due);
        legs(due);
        ships(due);
        due.end();
    }

    private static int bridge(RiverBridges x, int[] n) {
        return x.bridge(n[0], n[1], n[2], n[3], n[4], n[5]);
    }

    private static void bridges(Due due) {
        RiverBridges x = new RiverBridges();
        int made = 0;
        for (int i = 0; i < 6; i++) {
            for (int off : new int[] {-1, 1, Integer.MIN_VALUE, Integer.MAX_VALUE}) {
                int[] n = off == -1 || off == Integer.MIN_VALUE ? LEAST.clone() : MOST.clone();
                n[i] = off == 1 || off == -1 ? n[i] + off : off;
                due.is("bridge with number " + i + " of " + n[i], bridge(x, n), -1);
            }
        }
        due.is("count(1)", x.count(1), 0);
        due.is("bridge of the least", bridge(x, LEAST), made++);
        due.is("bridge of the most", bridge(x, MOST), made++);
        while (made < 8) {
            due.is("bridge " + made, bridge(x, LEAST), made++);
        }
        due.is("a ninth bridge", bridge(x, LEAST), -1);
        due.is("count(1)", x.count(1), 8);
        RiverBridges y = new RiverBridges();
        y.go(1);
        due.is("bridge in MINUTE 1", bridge(y, LEAST), -1);
    }

    private static void keepers(Due due) {
        RiverBridges x = new RiverBridges();
        due.is("keeper without a bridge", x.keeper(0), -1);
        x.bridge(0, 1, 1, 1, 0, 1);
        x.bridge(0, 1, 1, 1, 0, 1);
        due.is("keeper(-1)", x.keeper(-1), -1);
        due.is("keeper(2)", x.keeper(2), -1);
        for (int k = 0; k < 4; k++) {
            due.is("keeper " + k, x.keeper(k % 2), k);
        }
        due.is("a fifth keeper", x.keeper(0), -1);
        due.is("count(3)", x.count(3), 4);
        due.is("keeps(3, 0)", x.keeps(3, 0), 1);
        RiverBridges y = new RiverBridges();
        y.bridge(0, 1, 1, 1, 0, 1);
        y.go(1);
        due.is("keeper in MINUTE 1", y.keeper(0), -1);
    }

    private static void legs(Due due) {
        RiverBridges x = new RiverBridges();
        due.is("legs(0)", x.legs(0), false);
        due.is("legs(31)", x.legs(31), false);
        due.is("legs(-1)", x.legs(-1), false);
        due.is("legs(1)", x.legs(1), true);
        due.is("legs(30)", x.legs(30), true);
        due.is("legs(31) again", x.legs(31), false);
        for (int b = 0; b < 4; b++) {
            x.bridge(0, 1, 1, 1, 0, 1);
        }
        x.keeper(0);
        x.ship(1, false, 2);
        x.go(3);
        due.is("three bridges farther", x.keeps(0, 2), 92);
        due.is("legs in MINUTE 3", x.legs(1), false);
        x.go(89);
        due.is("on the way up to the end", x.keeps(0, 0), -1);
        x.go(1);
        due.is("there in MINUTE 92", x.keeps(0, 0), 3);
    }

    private static void ships(Due due) {
        RiverBridges x = new RiverBridges();
        due.is("ship without a bridge", x.ship(0, true, 0), -1);
        x.bridge(0, 1, 1, 1, 0, 1);
        due.is("ship, HIGH -1", x.ship(-1, true, 0), -1);
        due.is("ship, HIGH 501", x.ship(501, true, 0), -1);
        due.is("ship, COMES -1", x.ship(0, true, -1), -1);
        due.is("ship, COMES 1441", x.ship(0, true, 1441), -1);
        due.is("ship of the least", x.ship(0, true, 0), 0);
        due.is("ship of the most", x.ship(500, false, 1440), 1);
        x.go(10);
        due.is("ship, COMES ahead of MINUTE", x.ship(0, true, 9), -1);
        due.is("ship, COMES in MINUTE", x.ship(0, true, 10), 2);
        x.go(1);
        due.is("through(2, 0)", x.through(2, 0), 10);
        for (int s = 3; s < 40; s++) {
            due.is("ship " + s, x.ship(s, true, 11), s);
        }
        due.is("a ship too many", x.ship(0, true, 11), -1);
        due.is("count(2)", x.count(2), 40);
        RiverBridges y = new RiverBridges();
        y.bridge(0, 1, 1, 1, 0, 1);
        y.ship(0, false, 0);
        due.is("a ship down goes to the last bridge", y.told(0, 1), 0);
        y.bridge(0, 1, 1, 7, 0, 1);
        due.is("a ship down goes to what is the last one now", y.told(0, 1), 1);
        y.go(1440);
        due.is("through(0, 1)", y.through(0, 1), 0);
        due.is("the WAY of the lower one", y.through(0, 0), 1);
        due.is("ship in MINUTE 1440", y.ship(0, true, 1440), 1);
        due.is("ship ahead of MINUTE 1440", y.ship(0, true, 1439), -1);
        due.is("go at the end of the day", y.go(5), 1440);
        due.is("it never comes", y.told(1, 0), 0);
    }
}
