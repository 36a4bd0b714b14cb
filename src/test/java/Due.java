import java.nio.charset.StandardCharsets;
import java.util.Arrays;
import java.util.NoSuchElementException;

/** Counts the answers that are not as due, and feeds texts to a tape. */
final class Due {
    private int wrong = 0;
    private int asked = 0;
    private String sentence = "";

    /** The sentence of the document to which the answers behind this call are held; it must stand there. */
    void sentence(String words) {
        sentence = " (" + words + ")";
        is("stands in the document", Document.says(words), true);
    }

    void is(String call, int got, int want) {
        asked++;
        if (got != want) {
            wrong++;
            System.out.println(call + " answered " + got + ", due is " + want + sentence);
        }
    }

    void is(String call, boolean got, boolean want) {
        is(call, got ? 1 : 0, want ? 1 : 0);
    }

    /** told(s, what) must throw NoSuchElementException. */
    void noneSuch(RiverBridges x, int s, int what) {
        boolean thrown = false;
        try {
            x.told(s, what);
        } catch (NoSuchElementException e) {
            thrown = true;
        }
        is("told(" + s + ", " + what + ") throws", thrown, true);
    }

    void end() {
        System.out.println(wrong + " of " + asked + " answers are not as due");
        if (wrong != 0 || asked == 0) {
            System.exit(1);
        }
    }

    static void feedBytes(RiverBridges x, byte[] bytes) {
        for (int at = 0; at < bytes.length; at += 20) {
            byte[] part = Arrays.copyOfRange(bytes, at, at + 20);
            x.feed(number(part, 0), number(part, 4), number(part, 8), number(part, 12), number(part, 16));
        }
        x.end(bytes.length);
    }

    static void feedText(RiverBridges x, String text) {
        feedBytes(x, text.getBytes(StandardCharsets.ISO_8859_1));
    }

    static int number(byte[] b, int at) {
        return (b[at] & 255) << 24 | (b[at + 1] & 255) << 16 | (b[at + 2] & 255) << 8 | (b[at + 3] & 255);
    }

    /** n BRIDGES, CLEAR 10, that OPEN and SHUT in a MINUTE each, with a WAY of 10, and no CARS. */
    static RiverBridges river(int n) {
        RiverBridges x = new RiverBridges();
        for (int b = 0; b < n; b++) {
            x.bridge(10, 1, 1, 10, 0, 1);
        }
        return x;
    }

    static int timetable(RiverBridges x, String text) {
        feedText(x, text);
        return x.timetable();
    }

    /** LEVELS for the first hours; those of the others are 0. */
    static boolean tide(RiverBridges x, int... levels) {
        byte[] bytes = new byte[25];
        for (int i = 0; i < levels.length; i++) {
            bytes[i] = (byte) levels[i];
        }
        feedBytes(x, bytes);
        return x.tide();
    }
}
