import java.util.ArrayList;
import java.util.Arrays;
import java.util.Collections;
import java.util.List;
import java.util.NoSuchElementException;
import java.util.Random;

/** Runs of calls, the same in each run of the test, on the class and on the model: all answers must be alike. */
public final class ModelTest {
    private static final int RUNS = 2500;
    /** An object answers for 512 calls: the last of them ask how all stands. */
    private static final int CALLS = 512;
    private static final int MIXED_CALLS = 320;

    private final Due due = new Due();
    private final Random random;
    private final RiverBridges x = new RiverBridges();
    private final Model y = new Model();

    private ModelTest(int run) {
        random = new Random(run);
    }

    public static void main(String[] args) {
        Due total = new Due();
        for (int run = 0; run < RUNS; run++) {
            ModelTest test = new ModelTest(run);
            total.is("wrong answers in run " + run, test.run(), 0);
        }
        total.end();
    }

    private int wrong = 0;
    private int calls = 0;

    private void alike(String call, int got, int want) {
        calls++;
        if (got != want && wrong++ < 3) {
            due.is(call, got, want);
        }
    }

    private int run() {
        build();
        for (int i = 0; i < CALLS && calls < MIXED_CALLS; i++) {
            ask(random.nextInt(20));
        }
        askAll();
        return wrong;
    }

    /** Mostly from least to most, at times one or more beside it. */
    private int number(int least, int most) {
        switch (random.nextInt(40)) {
            case 0:
                return least - 1;
            case 1:
                return most + 1;
            case 2:
                return random.nextInt();
            case 3:
                return least;
            case 4:
                return most;
            default:
                return least + random.nextInt(most - least + 1);
        }
    }

    private void build() {
        if (random.nextInt(3) > 0) {
            feed(levels());
            alike("tide()", x.tide() ? 1 : 0, y.tide());
        }
        int bridges = random.nextInt(5) == 0 ? 9 : 1 + random.nextInt(4);
        for (int i = 0; i < bridges; i++) {
            bridge();
        }
        int keepers = random.nextInt(6);
        for (int i = 0; i < keepers; i++) {
            int b = number(0, bridges - 1);
            alike("keeper(" + b + ")", x.keeper(b), y.keeper(b));
        }
        int texts = random.nextInt(4);
        for (int i = 0; i < texts; i++) {
            timetable();
        }
        legs();
        int ships = random.nextInt(6) == 0 ? 42 : random.nextInt(12);
        int within = 1 + random.nextInt(random.nextBoolean() ? 60 : 1440);
        for (int i = 0; i < ships; i++) {
            ship(within);
        }
    }

    private void bridge() {
        int clear = number(0, random.nextBoolean() ? 400 : 100);
        int opens = number(1, 9);
        int shuts = number(1, 9);
        int way = number(1, random.nextBoolean() ? 60 : 9);
        int cars = number(0, 60);
        int flow = number(1, 99);
        alike("bridge", x.bridge(clear, opens, shuts, way, cars, flow), y.bridge(clear, opens, shuts, way, cars, flow));
    }

    private void legs() {
        int n = number(1, random.nextBoolean() ? 30 : 3);
        alike("legs(" + n + ")", x.legs(n) ? 1 : 0, y.legs(n));
    }

    private void ship(int within) {
        int high = number(0, random.nextBoolean() ? 500 : 150);
        boolean up = random.nextBoolean();
        int comes = Math.min(1441, y.count(0) + number(0, within));
        alike("ship", x.ship(high, up, comes), y.ship(high, up, comes));
    }

    private String levels() {
        StringBuilder text = new StringBuilder();
        int n = random.nextInt(8) == 0 ? random.nextInt(40) : 25;
        for (int i = 0; i < n; i++) {
            text.append((char) (random.nextInt(200) == 0 ? random.nextInt(256) : random.nextInt(101)));
        }
        return text.toString();
    }

    private void timetable() {
        String text = text();
        feed(text);
        alike("timetable() of [" + text + "]", x.timetable(), y.timetable());
        alike("fault() of [" + text + "]", x.fault(), y.fault());
    }

    private String blanks() {
        return random.nextInt(4) == 0 ? "\n" : " ".repeat(1 + random.nextInt(random.nextInt(12) == 0 ? 30 : 1));
    }

    private String text() {
        StringBuilder text = new StringBuilder();
        int parts = random.nextInt(random.nextInt(6) == 0 ? 10 : 4);
        int first = random.nextInt(8);
        int most = random.nextInt(4) == 0 ? 14 : 4;
        for (int i = 0; i < parts; i++) {
            int b = random.nextInt(20) == 0 ? random.nextInt(10) : (first + 3 * i) % 8;
            text.append("bridge").append(blanks()).append(b);
            for (int items = random.nextInt(most); items > 0; items--) {
                int from = number(0, 1440);
                text.append(blanks());
                if (random.nextBoolean()) {
                    text.append("train").append(blanks()).append(from);
                } else {
                    int to = Math.min(from + 1 + random.nextInt(60), 1440);
                    text.append("bar").append(blanks()).append(from).append(blanks()).append("to").append(blanks()).append(to);
                }
            }
            text.append(random.nextInt(3) == 0 ? "\n;" : ";");
        }
        if (random.nextInt(10) == 0) {
            text.append(" ".repeat(random.nextInt(420)));
        }
        if (text.length() > 0 && random.nextInt(3) == 0) {
            spoil(text);
        }
        text.setLength(Math.min(text.length(), 440));
        return text.toString();
    }

    private void spoil(StringBuilder text) {
        int at = random.nextInt(text.length());
        String signs = "bridge;t 0\n9Z?x";
        char sign = random.nextInt(4) == 0 ? (char) random.nextInt(256) : signs.charAt(random.nextInt(signs.length()));
        switch (random.nextInt(4)) {
            case 0:
                text.setCharAt(at, sign);
                break;
            case 1:
                text.deleteCharAt(at);
                break;
            case 2:
                text.insert(at, sign);
                break;
            default:
                text.setLength(at);
                break;
        }
    }

    private void feed(String text) {
        byte[] all = Model.bytes(text);
        for (int at = 0; at < all.length; at += 20) {
            byte[] part = Arrays.copyOfRange(all, at, at + 20);
            feed(Due.number(part, 0), Due.number(part, 4), Due.number(part, 8), Due.number(part, 12), Due.number(part, 16));
        }
        end(all.length);
    }

    private void feed(int a, int b, int c, int d, int e) {
        alike("feed", x.feed(a, b, c, d, e), y.feed(a, b, c, d, e));
    }

    private void end(int n) {
        alike("end(" + n + ")", x.end(n) ? 1 : 0, y.end(n));
    }

    private void ask(int call) {
        int bridges = Math.max(1, y.count(1));
        switch (call) {
            case 0 -> {
                if (random.nextInt(4) == 0) {
                    feed(random.nextInt(), random.nextInt(), random.nextInt(), random.nextInt(), random.nextInt());
                }
            }
            case 1 -> end(number(0, 440));
            case 2 -> bridge();
            case 3 -> alike("tide()", x.tide() ? 1 : 0, y.tide());
            case 4 -> timetable();
            case 5 -> legs();
            case 6 -> ship(100);
            case 7, 8, 9 -> {
                int n = random.nextInt(8) == 0 ? number(0, 1440) : number(0, random.nextBoolean() ? 2 : 30);
                alike("go(" + n + ")", x.go(n), y.go(n));
            }
            case 10 -> {
                int m = number(0, 1440);
                alike("level(" + m + ")", x.level(m), y.level(m));
            }
            case 11 -> {
                int b = number(0, bridges - 1);
                int m = number(0, 1440);
                alike("barred(" + b + ", " + m + ")", x.barred(b, m), y.barred(b, m));
            }
            case 12, 13 -> about(number(0, bridges - 1), number(0, 5));
            case 14 -> told(number(0, Math.max(0, y.count(2) - 1)), number(0, 3));
            case 15 -> through(number(0, 39), number(0, bridges - 1));
            case 16 -> keeps(number(0, 3), number(0, 2));
            case 17, 18 -> soonest();
            default -> counts(number(0, 6));
        }
    }

    /** All that there is to ask, in an order of chance, as far as the calls reach. */
    private void askAll() {
        List<Runnable> asks = new ArrayList<>();
        for (int what = 0; what < 7; what++) {
            int w = what;
            asks.add(() -> counts(w));
            for (int i = 0; i < 8; i++) {
                int b = i;
                asks.add(() -> about(b, w));
                asks.add(() -> keeps(b, w));
            }
        }
        for (int i = 0; i < y.count(2); i++) {
            int s = i;
            for (int j = 0; j < 8; j++) {
                int n = j;
                asks.add(() -> told(s, n % 4));
                asks.add(() -> through(s, n));
            }
        }
        Collections.shuffle(asks, random);
        for (int i = 0; i < asks.size() && calls < CALLS; i++) {
            asks.get(i).run();
        }
    }

    private void about(int b, int what) {
        alike("about(" + b + ", " + what + ")", x.about(b, what), y.about(b, what));
    }

    private void told(int s, int what) {
        int got;
        try {
            got = x.told(s, what);
        } catch (NoSuchElementException e) {
            got = Model.THROWS;
        }
        alike("told(" + s + ", " + what + ")", got, y.told(s, what));
    }

    private void through(int s, int b) {
        alike("through(" + s + ", " + b + ")", x.through(s, b), y.through(s, b));
    }

    private void keeps(int k, int what) {
        alike("keeps(" + k + ", " + what + ")", x.keeps(k, what), y.keeps(k, what));
    }

    private void counts(int what) {
        alike("count(" + what + ")", x.count(what), y.count(what));
    }

    private void soonest() {
        int high = number(0, random.nextBoolean() ? 500 : 150);
        boolean up = random.nextBoolean();
        int minute = number(0, random.nextInt(4) == 0 ? 1440 : 300);
        alike("soonest(" + high + ", " + up + ", " + minute + ")", x.soonest(high, up, minute), y.soonest(high, up, minute));
    }
}
