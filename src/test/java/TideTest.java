/** Promises 5 and 12: tide and level. */
public final class TideTest {
    public static void main(String[] args) {
        Due due = new Due();
        RiverBridges x = new RiverBridges();
        due.is("tide() of an empty tape", x.tide(), false);
        due.is("tide()", Due.tide(x, 100, 0, 7, 8, 100), true);
        due.is("the tape is empty then", x.count(6), 0);
        levels(due, x);
        refused(due, x);
        levels(due, x);
        x.go(1);
        Due.feedBytes(x, new byte[25]);
        due.is("tide() in MINUTE 1", x.tide(), false);
        due.is("the tape is empty then, too", x.count(6), 0);
        levels(due, x);
        due.end();
    }

    private static void levels(Due due, RiverBridges x) {
        int[][] wanted = {
            {0, 100}, {1, 99}, {2, 97}, {3, 95}, {30, 50}, {59, 2}, {60, 0}, {61, 0}, {68, 0}, {69, 1}, {119, 6},
            {120, 7}, {179, 7}, {180, 8}, {239, 98}, {240, 100}, {241, 99}, {299, 2}, {300, 0}, {1439, 0}, {1440, 0},
            {-1, -1}, {1441, -1}, {Integer.MIN_VALUE, -1}, {Integer.MAX_VALUE, -1}
        };
        for (int[] want : wanted) {
            due.is("level(" + want[0] + ")", x.level(want[0]), want[1]);
        }
    }

    private static void refused(Due due, RiverBridges x) {
        for (int n : new int[] {0, 1, 24, 26, 40}) {
            Due.feedBytes(x, new byte[n]);
            due.is("tide() of " + n + " bytes", x.tide(), false);
            due.is("the tape is empty then", x.count(6), 0);
        }
        for (int bad : new int[] {101, 127, 128, 255}) {
            byte[] bytes = new byte[25];
            bytes[24] = (byte) bad;
            Due.feedBytes(x, bytes);
            due.is("tide() with a byte of " + bad, x.tide(), false);
            due.is("the tape is empty then", x.count(6), 0);
        }
    }
}
