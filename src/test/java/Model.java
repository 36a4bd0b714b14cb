import java.nio.charset.StandardCharsets;
import java.util.ArrayList;
import java.util.Comparator;
import java.util.HashMap;
import java.util.List;
import java.util.Map;
import java.util.Set;
import java.util.TreeMap;
import java.util.TreeSet;
import java.util.regex.Matcher;
import java.util.regex.Pattern;

/**
 * The document told a second time, with the Java library and without thrift: sets of MINUTES, maps,
 * a table of the text's grammar. ModelTest holds the class against it.
 */
final class Model {
    static final int THROWS = Integer.MIN_VALUE;
    private static final int[][] BRIDGE_BOUNDS = {{0, 400}, {1, 9}, {1, 9}, {1, 60}, {0, 60}, {1, 99}};
    private static final Pattern TOKEN = Pattern.compile("[A-Za-z0-9]+|[^ \n]", Pattern.DOTALL);

    private static final class Span {
        final int[] n;
        int state = 0;
        int until = -1;
        int waiting = 0;
        int opened = 0;
        int waited = 0;

        Span(int[] n) {
            this.n = n;
        }
    }

    private static final class Vessel {
        int high;
        boolean up;
        int comes;
        int waits = 0;
        /** BRIDGE to MINUTE, of coming there and of going THROUGH. */
        final Map<Integer, Integer> came = new TreeMap<>();
        final Map<Integer, Integer> gone = new TreeMap<>();
    }

    private final StringBuilder tape = new StringBuilder();
    private final List<Span> bridges = new ArrayList<>();
    private final List<Vessel> ships = new ArrayList<>();
    private final List<int[]> keepers = new ArrayList<>();
    private int[] levels = new int[25];
    private Map<Integer, Set<Integer>> shut = new HashMap<>();
    private int fault = 0;
    private int legs = 5;
    private int now = 0;

    int feed(int... numbers) {
        if (tape.length() + 20 > 440) {
            return -1;
        }
        for (int n : numbers) {
            tape.append((char) (n >>> 24)).append((char) (n >>> 16 & 255)).append((char) (n >>> 8 & 255)).append((char) (n & 255));
        }
        return tape.length();
    }

    int end(int n) {
        if (n < 0 || n > tape.length()) {
            return 0;
        }
        tape.setLength(n);
        return 1;
    }

    int bridge(int... n) {
        boolean refused = bridges.size() == 8 || now != 0;
        for (int i = 0; i < 6; i++) {
            refused |= n[i] < BRIDGE_BOUNDS[i][0] || n[i] > BRIDGE_BOUNDS[i][1];
        }
        if (refused) {
            return -1;
        }
        bridges.add(new Span(n));
        return bridges.size() - 1;
    }

    private String takeTape() {
        String all = tape.toString();
        tape.setLength(0);
        return all;
    }

    int tide() {
        String all = takeTape();
        if (now != 0 || all.length() != 25 || all.chars().anyMatch(c -> c > 100)) {
            return 0;
        }
        levels = all.chars().toArray();
        return 1;
    }

    int timetable() {
        String all = takeTape();
        if (now != 0) {
            return -500;
        }
        Map<Integer, Set<Integer>> read = new HashMap<>();
        int[] found = firstFault(all, read);
        fault = found[0];
        if (fault != 0) {
            return -1 - found[1];
        }
        shut = read;
        return read.size();
    }

    /**
     * Kind and place. States: 0 bridge or the end; 1 its number; 2 bar, train or ;; 3 a bar's first number;
     * 4 to; 5 a bar's last number; 6 a train's number.
     */
    private static int[] firstFault(String all, Map<Integer, Set<Integer>> read) {
        int state = 0;
        int items = 0;
        int from = 0;
        Set<Integer> minutes = new TreeSet<>();
        Matcher m = TOKEN.matcher(all);
        while (m.find() && m.start() < 400) {
            String t = m.group();
            boolean number = t.matches("[0-9]{1,4}");
            if (!number && !t.matches("[a-z]+|;")) {
                return new int[] {1, m.start()};
            }
            boolean canCome = state == 0 ? t.equals("bridge")
                : state == 2 ? t.equals("bar") || t.equals("train") || t.equals(";")
                : state == 4 ? t.equals("to") : number;
            if (!canCome) {
                return new int[] {2, m.start()};
            }
            int value = number ? Integer.parseInt(t) : -1;
            if (number && (value > (state == 1 ? 7 : 1440) || state == 5 && value <= from)) {
                return new int[] {3, m.start()};
            }
            if (state == 1 && read.containsKey(value) || state == 2 && !t.equals(";") && items == 12) {
                return new int[] {4, m.start()};
            }
            switch (state) {
                case 0 -> state = 1;
                case 1 -> {
                    minutes = new TreeSet<>();
                    read.put(value, minutes);
                    items = 0;
                    state = 2;
                }
                case 2 -> {
                    items++;
                    state = t.equals("bar") ? 3 : t.equals("train") ? 6 : 0;
                }
                case 3 -> {
                    from = value;
                    state = 4;
                }
                case 4 -> state = 5;
                case 5 -> {
                    for (int i = from; i < value; i++) {
                        minutes.add(i);
                    }
                    state = 2;
                }
                default -> {
                    for (int i = -2; i <= 2; i++) {
                        minutes.add(value + i);
                    }
                    state = 2;
                }
            }
        }
        if (all.length() > 400) {
            return new int[] {2, 400};
        }
        return state == 0 ? new int[] {0, 0} : new int[] {2, all.length()};
    }

    int fault() {
        return fault;
    }

    int keeper(int b) {
        if (keepers.size() == 4 || now != 0 || b < 0 || b >= bridges.size()) {
            return -1;
        }
        keepers.add(new int[] {b, -1, -1});
        return keepers.size() - 1;
    }

    int legs(int minutes) {
        if (now != 0 || minutes < 1 || minutes > 30) {
            return 0;
        }
        legs = minutes;
        return 1;
    }

    int ship(int high, boolean up, int comes) {
        if (ships.size() == 40 || bridges.isEmpty() || high < 0 || high > 500 || comes < now || comes > 1440) {
            return -1;
        }
        Vessel v = new Vessel();
        v.high = high;
        v.up = up;
        v.comes = comes;
        ships.add(v);
        return ships.size() - 1;
    }

    int go(int n) {
        if (n < 0 || n > 1440) {
            return -1;
        }
        for (int target = Math.min(1440, now + n); now < target; now++) {
            minute();
        }
        return now;
    }

    /** The BRIDGES in the order in which a SHIP meets them. */
    private List<Integer> course(boolean up) {
        List<Integer> order = new ArrayList<>();
        for (int b = 0; b < bridges.size(); b++) {
            order.add(up ? order.size() : 0, b);
        }
        return order;
    }

    /** The MINUTE in which a SHIP is at a BRIDGE, as far as that is known; else -1. */
    private int meets(Vessel v, int b) {
        List<Integer> order = course(v.up);
        int i = order.indexOf(b);
        if (i == 0) {
            return v.comes;
        }
        Integer left = v.gone.get(order.get(i - 1));
        return left == null ? -1 : left + bridges.get(v.up ? b - 1 : b).n[3];
    }

    private List<Vessel> at(int b) {
        List<Vessel> there = new ArrayList<>();
        for (Vessel v : ships) {
            if (v.came.containsKey(b) && !v.gone.containsKey(b)) {
                there.add(v);
            }
        }
        return there;
    }

    private boolean shutIn(int b, int first, int last) {
        for (int m = first; m <= last; m++) {
            if (shut.getOrDefault(b, Set.of()).contains(m)) {
                return true;
            }
        }
        return false;
    }

    private void minute() {
        for (int b = 0; b < bridges.size(); b++) {
            for (Vessel v : ships) {
                if (meets(v, b) == now) {
                    v.came.put(b, now);
                }
            }
            Span s = bridges.get(b);
            if (s.until == now) {
                s.state = (s.state + 1) % 4;
                s.until = -1;
            }
        }
        for (int[] k : keepers) {
            if (k[2] == now) {
                k[0] = k[1];
                k[1] = -1;
                k[2] = -1;
            }
        }
        for (int b = 0; b < bridges.size(); b++) {
            int here = b;
            Span s = bridges.get(b);
            for (Vessel v : at(b)) {
                if (v.high + level(now) <= s.n[0]) {
                    v.gone.put(b, now);
                }
            }
            if (s.state == 2) {
                at(b).stream().min(Comparator.comparing(v -> v.came.get(here))).ifPresent(v -> v.gone.put(here, now));
            }
        }
        for (Vessel v : ships) {
            v.waits += v.came.size() - v.gone.size();
        }
        for (int b = 0; b < bridges.size(); b++) {
            turn(b, bridges.get(b), !at(b).isEmpty());
        }
        for (int[] k : keepers) {
            walk(k);
        }
        for (Span s : bridges) {
            s.waiting += s.n[4];
            s.waiting = s.state == 0 ? Math.max(0, s.waiting - s.n[5]) : s.waiting;
            s.waited += s.waiting;
        }
    }

    private void turn(int b, Span s, boolean wanted) {
        int opens = s.n[1];
        int shuts = s.n[2];
        if (s.state == 2 && (!wanted || shutIn(b, now + 1, now + shuts))) {
            s.state = 3;
            s.until = now + shuts;
        } else if (s.state == 0 && wanted && keepers.stream().anyMatch(k -> k[0] == b) && !shutIn(b, now, now + opens + shuts)) {
            s.state = 1;
            s.until = now + opens;
            s.opened++;
        }
    }

    private void walk(int[] k) {
        if (k[0] < 0 || bridges.get(k[0]).state != 0 || !at(k[0]).isEmpty()) {
            return;
        }
        for (int far = 1; far < 8; far++) {
            for (int b : new int[] {k[0] - far, k[0] + far}) {
                if (b >= 0 && b < bridges.size() && !at(b).isEmpty()
                        && keepers.stream().noneMatch(other -> other[0] == b || other[1] == b)) {
                    k[0] = -1;
                    k[1] = b;
                    k[2] = now + legs * far;
                    return;
                }
            }
        }
    }

    int level(int minute) {
        if (minute < 0 || minute > 1440) {
            return -1;
        }
        int ahead = levels[minute / 60];
        int behind = levels[Math.min(24, minute / 60 + 1)];
        int moved = Math.abs(behind - ahead) * (minute % 60) / 60;
        return behind > ahead ? ahead + moved : ahead - moved;
    }

    int barred(int b, int minute) {
        if (b < 0 || b >= bridges.size() || minute < 0 || minute > 1440) {
            return -1;
        }
        return shutIn(b, minute, minute) ? 1 : 0;
    }

    int about(int b, int what) {
        if (b < 0 || b >= bridges.size() || what < 0 || what > 5) {
            return -1;
        }
        Span s = bridges.get(b);
        return new int[] {s.state, s.until, at(b).size(), s.waiting, s.opened, s.waited}[what];
    }

    int told(int s, int what) {
        if (s < 0 || s >= ships.size() || what < 0 || what > 3) {
            return THROWS;
        }
        Vessel v = ships.get(s);
        boolean all = v.gone.size() == bridges.size();
        List<Integer> order = course(v.up);
        int state = all ? 3 : v.came.isEmpty() ? 0 : v.came.size() > v.gone.size() ? 1 : 2;
        int where = all ? -1 : order.get(v.gone.size());
        int done = all ? v.gone.get(order.get(order.size() - 1)) : -1;
        return new int[] {state, where, v.waits, done}[what];
    }

    int through(int s, int b) {
        return s < 0 || s >= ships.size() ? -1 : ships.get(s).gone.getOrDefault(b, -1);
    }

    int keeps(int k, int what) {
        return k < 0 || k >= keepers.size() || what < 0 || what > 2 ? -1 : keepers.get(k)[what];
    }

    int soonest(int high, boolean up, int minute) {
        if (bridges.isEmpty() || high < 0 || high > 500 || minute < 0 || minute > 1440) {
            return -1;
        }
        int m = minute;
        List<Integer> order = course(up);
        for (int i = 0; i < order.size(); i++) {
            int b = order.get(i);
            if (i > 0) {
                m += bridges.get(Math.min(b, order.get(i - 1))).n[3];
            }
            int came = m;
            while (m < 1440 && high + level(m) > bridges.get(b).n[0] && !opensFor(b, came, m)) {
                m++;
            }
            if (m >= 1440) {
                return -1;
            }
        }
        return m;
    }

    private boolean opensFor(int b, int came, int m) {
        int begun = m - bridges.get(b).n[1];
        return begun >= came && !shutIn(b, begun, m + bridges.get(b).n[2]);
    }

    int count(int what) {
        int done = 0;
        int most = 0;
        for (Vessel v : ships) {
            done += v.gone.size() == bridges.size() ? 1 : 0;
            most = Math.max(most, v.waits);
        }
        int[] answers = {now, bridges.size(), ships.size(), keepers.size(), done, most, tape.length()};
        return what < 0 || what > 6 ? -1 : answers[what];
    }

    static byte[] bytes(String text) {
        return text.getBytes(StandardCharsets.ISO_8859_1);
    }
}
