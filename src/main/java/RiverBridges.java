import java.util.ArrayList;
import java.util.NoSuchElementException;

/** A river with bridges that open for masts, stepped minute by minute; see README.md. */
public final class RiverBridges {
    public static final int NONE = -1;

    private static final int MOST_BRIDGES = 8;
    private static final int MOST_SHIPS = 40;
    private static final int MOST_KEEPERS = 4;
    private static final int DAY = 1440;
    private static final int MOST_HIGH = 500;
    private static final int DAY_HAS_BEGUN = -500;

    private final Reader reader;
    private final Tape tape;
    private final River river;
    private Timetable spare;
    private int faultKind;

    public RiverBridges() {
        reader = new Reader();
        tape = reader.tape;
        river = new River();
        spare = new Timetable();
        faultKind = 0;
    }

    public int feed(int a, int b, int c, int d, int e) {
        if (!tape.hasRoomForFive()) {
            return NONE;
        }
        tape.append(a);
        tape.append(b);
        tape.append(c);
        tape.append(d);
        tape.append(e);
        return tape.size;
    }

    public boolean end(int n) {
        if (!isWithin(n, 0, tape.size)) {
            return false;
        }
        tape.size = n;
        return true;
    }

    public int bridge(int clear, int opens, int shuts, int way, int cars, int flow) {
        if (river.minute != 0 || river.bridges.size() >= MOST_BRIDGES) {
            return NONE;
        }
        if (!isWithin(clear, 0, 400) || !isWithin(opens, 1, 9) || !isWithin(shuts, 1, 9)) {
            return NONE;
        }
        if (!isWithin(way, 1, 60) || !isWithin(cars, 0, 60) || !isWithin(flow, 1, 99)) {
            return NONE;
        }
        river.bridges.add(new Bridge(clear, opens, shuts, way, cars, flow));
        return river.bridges.size() - 1;
    }

    public boolean tide() {
        boolean taken = river.minute == 0 && river.tide.takeFrom(tape);
        tape.size = 0;
        return taken;
    }

    public int timetable() {
        if (river.minute != 0) {
            tape.size = 0;
            return DAY_HAS_BEGUN;
        }
        boolean fine = reader.readInto(spare);
        tape.size = 0;
        faultKind = reader.faultKind;
        if (!fine) {
            return -1 - reader.faultPlace;
        }
        Timetable old = river.shutTimes;
        river.shutTimes = spare;
        spare = old;
        return river.shutTimes.bridgesTold;
    }

    public int fault() {
        return faultKind;
    }

    public int keeper(int b) {
        if (river.minute != 0 || river.keepers.size() >= MOST_KEEPERS || !isBridge(b)) {
            return NONE;
        }
        river.keepers.add(new Keeper(b));
        return river.keepers.size() - 1;
    }

    public boolean legs(int minutes) {
        if (river.minute != 0 || !isWithin(minutes, 1, 30)) {
            return false;
        }
        river.legMinutes = minutes;
        return true;
    }

    public int ship(int high, boolean up, int comes) {
        if (river.bridges.isEmpty() || river.ships.size() >= MOST_SHIPS) {
            return NONE;
        }
        if (!isWithin(high, 0, MOST_HIGH) || !isWithin(comes, river.minute, DAY)) {
            return NONE;
        }
        river.ships.add(new Ship(high, up, comes));
        return river.ships.size() - 1;
    }

    public int go(int n) {
        if (!isWithin(n, 0, DAY)) {
            return NONE;
        }
        for (int i = 0; i < n && river.minute < DAY; i++) {
            river.doMinute();
        }
        return river.minute;
    }

    public int level(int minute) {
        return isWithin(minute, 0, DAY) ? river.tide.levelIn(minute) : NONE;
    }

    public int barred(int b, int minute) {
        if (!isBridge(b) || !isWithin(minute, 0, DAY)) {
            return NONE;
        }
        return river.shutTimes.touches(b, minute, minute) ? 1 : 0;
    }

    public int about(int b, int what) {
        return isBridge(b) ? river.bridges.get(b).tell(what) : NONE;
    }

    public int told(int s, int what) throws NoSuchElementException {
        if (!isShip(s)) {
            throw new NoSuchElementException("no such ship");
        }
        Ship ship = river.ships.get(s);
        switch (what) {
            case 0:
                return ship.state;
            case 1:
                return river.whereOrWhereTo(ship);
            case 2:
                return ship.waited;
            case 3:
                return ship.allThrough;
            default:
                throw new NoSuchElementException("nothing such is told of a ship");
        }
    }

    public int through(int s, int b) {
        return isShip(s) && isBridge(b) ? river.ships.get(s).passed[b] : NONE;
    }

    public int keeps(int k, int what) {
        if (!isWithin(k, 0, river.keepers.size() - 1)) {
            return NONE;
        }
        Keeper keeper = river.keepers.get(k);
        switch (what) {
            case 0:
                return keeper.where;
            case 1:
                return keeper.goal;
            case 2:
                return keeper.due;
            default:
                return NONE;
        }
    }

    public int soonest(int high, boolean up, int minute) {
        if (river.bridges.isEmpty() || !isWithin(high, 0, MOST_HIGH) || !isWithin(minute, 0, DAY)) {
            return NONE;
        }
        return river.foretell(high, up, minute);
    }

    public int count(int what) {
        switch (what) {
            case 0:
                return river.minute;
            case 1:
                return river.bridges.size();
            case 2:
                return river.ships.size();
            case 3:
                return river.keepers.size();
            case 4:
                return river.shipsAllThrough();
            case 5:
                return river.longestWait();
            case 6:
                return tape.size;
            default:
                return NONE;
        }
    }

    private boolean isBridge(int b) {
        return isWithin(b, 0, river.bridges.size() - 1);
    }

    private boolean isShip(int s) {
        return isWithin(s, 0, river.ships.size() - 1);
    }

    private static boolean isWithin(int value, int least, int most) {
        return value >= least && value <= most;
    }

    /** The bytes that were fed and not yet used. */
    private static final class Tape {
        static final int MOST = 440;
        static final int BYTES_OF_FIVE = 20;

        final int[] bytes = new int[MOST];
        int size = 0;

        boolean hasRoomForFive() {
            return size + BYTES_OF_FIVE <= MOST;
        }

        void append(int number) {
            for (int shift = 24; shift >= 0 && size < MOST; shift -= 8) {
                bytes[size] = (number >>> shift) & 255;
                size++;
            }
        }
    }

    /** The LEVELS of the day. */
    private static final class Tide {
        static final int HOURS = 25;
        static final int HIGHEST = 100;

        final int[] levels = new int[HOURS];

        /** Nothing is taken unless all bytes are as told. */
        boolean takeFrom(Tape tape) {
            if (tape.size != HOURS) {
                return false;
            }
            for (int i = 0; i < HOURS; i++) {
                if (tape.bytes[i] > HIGHEST) {
                    return false;
                }
            }
            System.arraycopy(tape.bytes, 0, levels, 0, HOURS);
            return true;
        }

        /** For a MINUTE from 0 to 1440. */
        int levelIn(int minute) {
            int hour = minute / 60;
            int past = minute % 60;
            if (past == 0) {
                return levels[hour];
            }
            return levels[hour] + (levels[hour + 1] - levels[hour]) * past / 60;
        }
    }

    /** The SHUT TIMES by BRIDGE, each kept as its first and its last MINUTE. */
    private static final class Timetable {
        static final int MOST_SPANS = 12;

        final int[][] first = new int[MOST_BRIDGES][MOST_SPANS];
        final int[][] last = new int[MOST_BRIDGES][MOST_SPANS];
        final int[] spans = new int[MOST_BRIDGES];
        final boolean[] isTold = new boolean[MOST_BRIDGES];
        int bridgesTold = 0;

        void clear() {
            for (int b = 0; b < MOST_BRIDGES; b++) {
                spans[b] = 0;
                isTold[b] = false;
            }
            bridgesTold = 0;
        }

        void tellOf(int b) {
            isTold[b] = true;
            bridgesTold++;
        }

        boolean isFull(int b) {
            return spans[b] >= MOST_SPANS;
        }

        void addSpan(int b, int from, int to) {
            if (!isFull(b)) {
                first[b][spans[b]] = from;
                last[b][spans[b]] = to;
                spans[b]++;
            }
        }

        /** Is one of the MINUTES from .. to of the SHUT TIMES of BRIDGE b? */
        boolean touches(int b, int from, int to) {
            for (int i = 0; i < spans[b]; i++) {
                if (first[b][i] <= to && last[b][i] >= from) {
                    return true;
                }
            }
            return false;
        }
    }

    /** Reads its tape as a TIMETABLE, TOKEN by TOKEN, up to the first FAULT. */
    private static final class Reader {
        static final int MOST_TEXT = 400;
        static final int MOST_DIGITS = 4;
        static final int TRAIN_MARGIN = 2;

        /** What a TOKEN is. */
        static final int NO_TOKEN = 0;
        static final int END = 1;
        static final int OVERLONG = 2;
        static final int SEMICOLON = 3;
        static final int NUMBER = 4;
        static final int BRIDGE = 5;
        static final int BAR = 6;
        static final int TO = 7;
        static final int TRAIN = 8;
        static final int OTHER_WORD = 9;

        /** What is due next in the text. */
        static final int BRIDGE_OR_END = 0;
        static final int BRIDGE_NUMBER = 1;
        static final int SPAN_OR_SEMICOLON = 2;
        static final int BAR_FROM = 3;
        static final int BAR_TO = 4;
        static final int BAR_UNTIL = 5;
        static final int TRAIN_MINUTE = 6;

        static final int FAULT_NO_TOKEN = 1;
        static final int FAULT_MISPLACED = 2;
        static final int FAULT_NUMBER = 3;
        static final int FAULT_TOO_MANY = 4;

        final Tape tape = new Tape();
        int due = BRIDGE_OR_END;
        int bridgeTold = 0;
        int barFrom = 0;
        int place = 0;
        int token = END;
        int start = 0;
        int value = 0;
        int faultKind = 0;
        int faultPlace = 0;

        /** True: the tape is a TIMETABLE, and stands in the one given. False: the FAULT is kept. */
        boolean readInto(Timetable table) {
            due = BRIDGE_OR_END;
            place = 0;
            faultKind = 0;
            faultPlace = 0;
            table.clear();
            boolean goesOn = true;
            // Each TOKEN has a byte at least, and the end is read too.
            for (int i = 0; i <= MOST_TEXT && goesOn; i++) {
                advance();
                goesOn = takeToken(table);
            }
            return faultKind == 0;
        }

        /** False: the text ends here, or has its FAULT here. */
        private boolean takeToken(Timetable table) {
            if (token == NO_TOKEN) {
                return fail(FAULT_NO_TOKEN);
            }
            switch (due) {
                case BRIDGE_OR_END:
                    return token != END && takeWord(BRIDGE, BRIDGE_NUMBER);
                case BRIDGE_NUMBER:
                    return isNumber(0, MOST_BRIDGES - 1) && takeBridgeNumber(table);
                case SPAN_OR_SEMICOLON:
                    return takeSpanOrSemicolon(table);
                case BAR_FROM:
                    return isNumber(0, DAY) && takeBarFrom();
                case BAR_TO:
                    return takeWord(TO, BAR_UNTIL);
                case BAR_UNTIL:
                    return isNumber(barFrom + 1, DAY) && takeSpan(table, barFrom, value - 1);
                default:
                    return isNumber(0, DAY) && takeSpan(table, value - TRAIN_MARGIN, value + TRAIN_MARGIN);
            }
        }

        private boolean takeWord(int wanted, int dueThen) {
            if (token != wanted) {
                return fail(FAULT_MISPLACED);
            }
            due = dueThen;
            return true;
        }

        private boolean isNumber(int least, int most) {
            if (token != NUMBER) {
                return fail(FAULT_MISPLACED);
            }
            return isWithin(value, least, most) || fail(FAULT_NUMBER);
        }

        private boolean takeBridgeNumber(Timetable table) {
            if (table.isTold[value]) {
                return fail(FAULT_TOO_MANY);
            }
            table.tellOf(value);
            bridgeTold = value;
            due = SPAN_OR_SEMICOLON;
            return true;
        }

        private boolean takeSpanOrSemicolon(Timetable table) {
            if (token != BAR && token != TRAIN) {
                return takeWord(SEMICOLON, BRIDGE_OR_END);
            }
            if (table.isFull(bridgeTold)) {
                return fail(FAULT_TOO_MANY);
            }
            due = token == BAR ? BAR_FROM : TRAIN_MINUTE;
            return true;
        }

        private boolean takeBarFrom() {
            barFrom = value;
            due = BAR_TO;
            return true;
        }

        private boolean takeSpan(Timetable table, int first, int last) {
            table.addSpan(bridgeTold, first, last);
            due = SPAN_OR_SEMICOLON;
            return true;
        }

        /** Always false, so that a taking method can end with it. */
        private boolean fail(int kind) {
            faultKind = kind;
            faultPlace = start;
            return false;
        }

        private void advance() {
            // A TOKEN begins ahead of the limit, but may go on behind it.
            int limit = Math.min(tape.size, MOST_TEXT);
            while (place < limit && isBlank(tape.bytes[place])) {
                place++;
            }
            if (place >= limit) {
                start = limit;
                token = tape.size > MOST_TEXT ? OVERLONG : END;
                return;
            }
            start = place;
            if (tape.bytes[place] == ';') {
                place++;
                token = SEMICOLON;
                return;
            }
            while (place < tape.size && (isLetter(tape.bytes[place]) || isDigit(tape.bytes[place]))) {
                place++;
            }
            token = tokenOfRun();
        }

        /** What the letters and digits from start up to place are; there may be none. */
        private int tokenOfRun() {
            int digits = 0;
            int smalls = 0;
            for (int i = start; i < place; i++) {
                digits += isDigit(tape.bytes[i]) ? 1 : 0;
                smalls += isSmall(tape.bytes[i]) ? 1 : 0;
            }
            int run = place - start;
            if (run == 0) {
                return NO_TOKEN;
            }
            if (digits == run && run <= MOST_DIGITS) {
                value = numberOfRun();
                return NUMBER;
            }
            return smalls == run ? wordOfRun() : NO_TOKEN;
        }

        private int numberOfRun() {
            int number = 0;
            for (int i = start; i < place; i++) {
                number = number * 10 + tape.bytes[i] - '0';
            }
            return number;
        }

        private int wordOfRun() {
            if (runIs("bridge")) {
                return BRIDGE;
            }
            if (runIs("bar")) {
                return BAR;
            }
            if (runIs("to")) {
                return TO;
            }
            return runIs("train") ? TRAIN : OTHER_WORD;
        }

        private boolean runIs(String word) {
            if (word.length() != place - start) {
                return false;
            }
            for (int i = 0; i < word.length(); i++) {
                if (tape.bytes[start + i] != word.charAt(i)) {
                    return false;
                }
            }
            return true;
        }

        private static boolean isBlank(int sign) {
            return sign == 32 || sign == 10;
        }

        private static boolean isDigit(int sign) {
            return sign >= '0' && sign <= '9';
        }

        private static boolean isSmall(int sign) {
            return sign >= 'a' && sign <= 'z';
        }

        /** Capitals make no WORD, but they are letters: a run goes on over them. */
        private static boolean isLetter(int sign) {
            return isSmall(sign) || sign >= 'A' && sign <= 'Z';
        }
    }

    private static final class Bridge {
        static final int SHUT = 0;
        static final int OPENING = 1;
        static final int OPEN = 2;
        static final int SHUTTING = 3;

        final int clear;
        final int opens;
        final int shuts;
        final int way;
        final int cars;
        final int flow;
        int state = SHUT;
        int ends = NONE;
        int shipsAtIt = 0;
        int carsWaiting = 0;
        int openings = 0;
        int carsWaited = 0;

        Bridge(int clear, int opens, int shuts, int way, int cars, int flow) {
            this.clear = clear;
            this.opens = opens;
            this.shuts = shuts;
            this.way = way;
            this.cars = cars;
            this.flow = flow;
        }

        boolean isWanted() {
            return shipsAtIt > 0;
        }

        void startOpening(int minute) {
            state = OPENING;
            ends = minute + opens;
            openings++;
        }

        void startShutting(int minute) {
            state = SHUTTING;
            ends = minute + shuts;
        }

        void endTurning(int minute) {
            if (ends == minute) {
                state = state == OPENING ? OPEN : SHUT;
                ends = NONE;
            }
        }

        void moveCars() {
            carsWaiting += cars;
            if (state == SHUT) {
                carsWaiting -= Math.min(flow, carsWaiting);
            }
            carsWaited += carsWaiting;
        }

        int tell(int what) {
            switch (what) {
                case 0:
                    return state;
                case 1:
                    return ends;
                case 2:
                    return shipsAtIt;
                case 3:
                    return carsWaiting;
                case 4:
                    return openings;
                case 5:
                    return carsWaited;
                default:
                    return NONE;
            }
        }
    }

    private static final class Ship {
        static final int NOT_COME = 0;
        static final int AT = 1;
        static final int UNDER_WAY = 2;
        static final int ALL_THROUGH = 3;

        final int high;
        final boolean up;
        final int[] passed = new int[MOST_BRIDGES];
        int state = NOT_COME;
        /** The BRIDGE where it is or goes; the first one is set only when it COMES. */
        int target = NONE;
        /** The MINUTE in which it is at its target: to come, or, while AT it, gone by. */
        int arrives;
        int waited = 0;
        int allThrough = NONE;

        Ship(int high, boolean up, int comes) {
            this.high = high;
            this.up = up;
            arrives = comes;
            for (int b = 0; b < MOST_BRIDGES; b++) {
                passed[b] = NONE;
            }
        }

        boolean isAt(int b) {
            return state == AT && target == b;
        }

        boolean arrivesIn(int minute) {
            return (state == NOT_COME || state == UNDER_WAY) && arrives == minute;
        }
    }

    private static final class Keeper {
        int where;
        int goal = NONE;
        int due = NONE;

        Keeper(int where) {
            this.where = where;
        }

        boolean isAtOrGoesTo(int b) {
            return where == b || goal == b;
        }

        void setOut(int b, int arrival) {
            where = NONE;
            goal = b;
            due = arrival;
        }

        void arriveIn(int minute) {
            if (goal != NONE && due == minute) {
                where = goal;
                goal = NONE;
                due = NONE;
            }
        }
    }

    /** All that is on the river, and the MINUTES that are done to it. */
    private static final class River {
        final Tide tide = new Tide();
        final ArrayList<Bridge> bridges = new ArrayList<>();
        final ArrayList<Ship> ships = new ArrayList<>();
        final ArrayList<Keeper> keepers = new ArrayList<>();
        Timetable shutTimes = new Timetable();
        int legMinutes = 5;
        int minute = 0;

        void doMinute() {
            bringAll();
            for (int b = 0; b < bridges.size(); b++) {
                letShipsThrough(b);
            }
            countWaits();
            for (int b = 0; b < bridges.size(); b++) {
                turnBridge(b);
            }
            for (int k = 0; k < keepers.size(); k++) {
                sendKeeper(keepers.get(k));
            }
            for (int b = 0; b < bridges.size(); b++) {
                bridges.get(b).moveCars();
            }
            minute++;
        }

        private void bringAll() {
            for (int s = 0; s < ships.size(); s++) {
                Ship ship = ships.get(s);
                if (ship.arrivesIn(minute)) {
                    bringShip(ship);
                }
            }
            for (int k = 0; k < keepers.size(); k++) {
                keepers.get(k).arriveIn(minute);
            }
            for (int b = 0; b < bridges.size(); b++) {
                bridges.get(b).endTurning(minute);
            }
        }

        private void bringShip(Ship ship) {
            ship.target = whereOrWhereTo(ship);
            ship.state = Ship.AT;
            bridges.get(ship.target).shipsAtIt++;
        }

        /** A SHIP that has not come goes to what is the last BRIDGE now: others may have been added. */
        int whereOrWhereTo(Ship ship) {
            if (ship.state == Ship.NOT_COME) {
                return ship.up ? 0 : bridges.size() - 1;
            }
            return ship.target;
        }

        private void letShipsThrough(int b) {
            // Most BRIDGES have no SHIP in most MINUTES: a day of forty SHIPS is much shorter so.
            if (!bridges.get(b).isWanted()) {
                return;
            }
            for (int s = 0; s < ships.size(); s++) {
                Ship ship = ships.get(s);
                if (ship.isAt(b) && comesUnder(ship.high, b, minute)) {
                    sendThrough(ship, b);
                }
            }
            if (bridges.get(b).state == Bridge.OPEN && bridges.get(b).isWanted()) {
                sendLongestThrough(b);
            }
        }

        private boolean comesUnder(int high, int b, int m) {
            return high + tide.levelIn(m) <= bridges.get(b).clear;
        }

        private void sendLongestThrough(int b) {
            int longest = NONE;
            for (int s = 0; s < ships.size(); s++) {
                if (ships.get(s).isAt(b) && (longest == NONE || ships.get(s).arrives < ships.get(longest).arrives)) {
                    longest = s;
                }
            }
            if (longest != NONE) {
                sendThrough(ships.get(longest), b);
            }
        }

        private void sendThrough(Ship ship, int b) {
            bridges.get(b).shipsAtIt--;
            ship.passed[b] = minute;
            int next = ship.up ? b + 1 : b - 1;
            if (!isWithin(next, 0, bridges.size() - 1)) {
                ship.state = Ship.ALL_THROUGH;
                ship.target = NONE;
                ship.allThrough = minute;
                return;
            }
            ship.state = Ship.UNDER_WAY;
            ship.target = next;
            ship.arrives = minute + bridges.get(Math.min(b, next)).way;
        }

        private void countWaits() {
            for (int s = 0; s < ships.size(); s++) {
                Ship ship = ships.get(s);
                if (ship.state == Ship.AT) {
                    ship.waited++;
                }
            }
        }

        private void turnBridge(int b) {
            Bridge bridge = bridges.get(b);
            if (bridge.state == Bridge.OPEN) {
                if (!bridge.isWanted() || shutTimes.touches(b, minute + 1, minute + bridge.shuts)) {
                    bridge.startShutting(minute);
                }
                return;
            }
            if (bridge.state == Bridge.SHUT && bridge.isWanted() && hasKeeper(b)
                    && !shutTimes.touches(b, minute, minute + bridge.opens + bridge.shuts)) {
                bridge.startOpening(minute);
            }
        }

        private boolean hasKeeper(int b) {
            for (int k = 0; k < keepers.size(); k++) {
                if (keepers.get(k).where == b) {
                    return true;
                }
            }
            return false;
        }

        private void sendKeeper(Keeper keeper) {
            int from = keeper.where;
            if (from == NONE || bridges.get(from).state != Bridge.SHUT || bridges.get(from).isWanted()) {
                return;
            }
            int nearest = NONE;
            for (int b = 0; b < bridges.size(); b++) {
                boolean nearer = nearest == NONE || Math.abs(b - from) < Math.abs(nearest - from);
                if (nearer && bridges.get(b).isWanted() && !isKept(b)) {
                    nearest = b;
                }
            }
            if (nearest != NONE) {
                keeper.setOut(nearest, minute + legMinutes * Math.abs(nearest - from));
            }
        }

        private boolean isKept(int b) {
            for (int k = 0; k < keepers.size(); k++) {
                if (keepers.get(k).isAtOrGoesTo(b)) {
                    return true;
                }
            }
            return false;
        }

        int shipsAllThrough() {
            int n = 0;
            for (int s = 0; s < ships.size(); s++) {
                n += ships.get(s).state == Ship.ALL_THROUGH ? 1 : 0;
            }
            return n;
        }

        int longestWait() {
            int most = 0;
            for (int s = 0; s < ships.size(); s++) {
                most = Math.max(most, ships.get(s).waited);
            }
            return most;
        }

        /** SOONEST of a SHIP that is at its first BRIDGE in a MINUTE; NONE: never. */
        int foretell(int high, boolean up, int from) {
            int last = bridges.size() - 1;
            int m = from;
            for (int i = 0; i <= last; i++) {
                int b = up ? i : last - i;
                m = firstPassage(high, b, m);
                if (m == NONE || i == last) {
                    return m;
                }
                m += bridges.get(up ? b : b - 1).way;
            }
            return NONE;
        }

        private int firstPassage(int high, int b, int came) {
            Bridge bridge = bridges.get(b);
            for (int m = came; m < DAY; m++) {
                int begun = m - bridge.opens;
                boolean opened = begun >= came && !shutTimes.touches(b, begun, m + bridge.shuts);
                if (opened || comesUnder(high, b, m)) {
                    return m;
                }
            }
            return NONE;
        }
    }
}
