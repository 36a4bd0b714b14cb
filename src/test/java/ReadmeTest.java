import java.io.IOException;
import java.nio.file.Files;
import java.nio.file.Path;
import java.util.Scanner;

/** What README.md shows does answer as it says there, and it tells of every call of the face. */
public final class ReadmeTest {
    private static final String[] CALLS = {
        "feed(a, b, c, d, e)", "end(n)", "bridge(clear, opens, shuts, way, cars, flow)", "tide()", "timetable()", "fault()",
        "keeper(b)", "legs(minutes)", "ship(high, up, comes)", "go(n)", "level(minute)", "barred(b, minute)", "about(b, what)",
        "told(s, what)", "through(s, b)", "keeps(k, what)", "soonest(high, up, minute)", "count(what)"
    };

    public static void main(String[] args) throws IOException {
        String readme = Files.readString(Path.of("README.md"));
        Due due = new Due();
        for (String call : CALLS) {
            due.is("README.md tells of " + call, readme.contains("| `" + call + "` |"), true);
        }
        due.is("README.md tells how to run the tests", readme.contains("\n    .ci/run\n"), true);
        example(due, readme);
        due.end();
    }

    /** The calls stand here again, as Java alone can run them: each must stand in README.md with its answer. */
    private static void example(Due due, String readme) {
        RiverBridges x = new RiverBridges();
        shown(due, readme, "x.bridge(50, 2, 3, 10, 5, 8);", x.bridge(50, 2, 3, 10, 5, 8));
        shown(due, readme, "x.keeper(0);", x.keeper(0));
        shown(due, readme, "x.ship(60, true, 1);", x.ship(60, true, 1));
        shown(due, readme, "x.feed(0x62726964, 0x67652030, 0x20747261, 0x696e2032, 0x303b0000);",
            x.feed(0x62726964, 0x67652030, 0x20747261, 0x696e2032, 0x303b0000));
        shown(due, readme, "x.end(18);", x.end(18) ? 1 : 0);
        shown(due, readme, "x.timetable();", x.timetable());
        shown(due, readme, "x.barred(0, 18);", x.barred(0, 18));
        shown(due, readme, "x.soonest(60, true, 1);", x.soonest(60, true, 1));
        shown(due, readme, "x.go(10);", x.go(10));
        shown(due, readme, "x.through(0, 0);", x.through(0, 0));
        shown(due, readme, "x.about(0, 5);", x.about(0, 5));
    }

    private static void shown(Due due, String readme, String call, int got) {
        int at = readme.indexOf("\n" + call);
        due.is("README.md shows " + call, at >= 0, true);
        if (at >= 0) {
            String line = new Scanner(readme.substring(at + 1)).nextLine();
            String answer = line.replaceAll(".*// (true|-?\\d+)\\b.*", "$1");
            due.is(call, got, answer.equals("true") ? 1 : Integer.parseInt(answer));
        }
    }
}
