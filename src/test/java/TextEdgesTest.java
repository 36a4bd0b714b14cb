/** The boundary cases of promises 6, 7 and 13, sentence by sentence: the TIMETABLE, its FAULTS, the SHUT TIMES. */
public final class TextEdgesTest {
    private static final String TRAINS_12 = " train 9".repeat(12);
    private static final int LEAST_INT = Integer.MIN_VALUE;
    private static final int MOST_INT = Integer.MAX_VALUE;

    public static void main(String[] args) {
        Due due = new Due();
        words(due);
        numbers(due);
        blanks(due);
        runs(due);
        grammar(due);
        grammarBroken(due);
        bridgesTold(due);
        bars(due);
        trains(due);
        twelve(due);
        firstAlongTheText(due);
        leastOfOneToken(due);
        noToken(due);
        theEnd(due);
        fourHundred(due);
        readWhole(due);
        numberNotAsTold(due);
        toldTwice(due);
        thirteenth(due);
        barTimes(due);
        trainTimes(due);
        noWrapAround(due);
        timetableNow(due);
        timetableStays(due);
        timetableLate(due);
        faultKind(due);
        barred(due);
        due.end();
    }

    private static void asks(Due due, String text, int answer, int kind) {
        RiverBridges x = new RiverBridges();
        due.is("timetable() of [" + text + "]", Due.timetable(x, text), answer);
        due.is("fault() of [" + text + "]", x.fault(), kind);
        due.is("the tape behind [" + text + "]", x.count(6), 0);
    }

    private static void fine(Due due, String text, int bridges) {
        asks(due, text, bridges, 0);
    }

    private static void fault(Due due, String text, int place, int kind) {
        asks(due, text, -1 - place, kind);
    }

    private static void words(Due due) {
        due.sentence("WORDS (small letters)");
        fault(due, "a", 0, 2);
        fault(due, "z", 0, 2);
        fault(due, "`", 0, 1);
        fault(due, "{", 0, 1);
        fault(due, "A", 0, 1);
        fault(due, "Z", 0, 1);
        fault(due, "BRIDGE 0;", 0, 1);
        fault(due, "bridgE 0;", 0, 1);
        fault(due, "bridge 0 baR 1 to 2;", 9, 1);
        for (String other : new String[] {"aridge", "bradge", "bridga", "bridg", "bridgee", "xbridge"}) {
            fault(due, other + " 0;", 0, 2);
        }
        for (String other : new String[] {"aar", "bbr", "bat", "ba", "barr", "to", "a"}) {
            fault(due, "bridge 0 " + other + " 1 to 2;", 9, 2);
        }
        for (String other : new String[] {"oo", "tt", "t", "too", "bar"}) {
            fault(due, "bridge 0 bar 1 " + other + " 2;", 15, 2);
        }
        for (String other : new String[] {"brain", "tsain", "tron", "traim", "trai", "trains"}) {
            fault(due, "bridge 0 " + other + " 2;", 9, 2);
        }
    }

    private static void numbers(Due due) {
        due.sentence("NUMBERS (1 to 4 digits)");
        fine(due, "bridge 7;", 1);
        fine(due, "bridge 07;", 1);
        fine(due, "bridge 007;", 1);
        fine(due, "bridge 0007;", 1);
        fault(due, "bridge 00007;", 7, 1);
        fine(due, "bridge 0 train 0000;", 1);
        fault(due, "bridge 0 train 00000;", 15, 1);
        fault(due, "bridge 0 train 9999;", 15, 3);
        fault(due, "bridge 0 train 10000;", 15, 1);
        fault(due, "bridge 0 train 4294967296;", 15, 1);
        fault(due, "bridge 0 train " + "9".repeat(300) + ";", 15, 1);
        fault(due, "bridge /;", 7, 1);
        fault(due, "bridge :;", 7, 1);
        fault(due, "bridge -1;", 7, 1);
        fault(due, "bridge +1;", 7, 1);
    }

    private static void blanks(Due due) {
        due.sentence("; with blanks (32, 10) between or not");
        fine(due, "bridge 0;bridge 1;", 2);
        fine(due, "  bridge  0  ;  bridge  1  ;  ", 2);
        fine(due, "\nbridge\n\n0\n;\nbridge\n1\n;\n", 2);
        fine(due, " ", 0);
        fine(due, "\n", 0);
        for (int sign : new int[] {0, 9, 11, 12, 13, 31, 33, 127, 128, 160, 255}) {
            fault(due, "bridge" + (char) sign + "0;", 6, 1);
            fault(due, (char) sign + "bridge 0;", 0, 1);
            fault(due, "bridge 0;" + (char) sign, 9, 1);
        }
    }

    private static void runs(Due due) {
        due.sentence("(a WORD, NUMBER goes on as long as letters and digits do; where it is not as told then it is no TOKEN)");
        fault(due, "bridge0;", 0, 1);
        fault(due, "bridge 0bar 1 to 2;", 7, 1);
        fault(due, "bridge 0 bar1 to 2;", 9, 1);
        fault(due, "bridge 0 bar 1to 2;", 13, 1);
        fault(due, "bridge 0 bar 1 to2;", 15, 1);
        fault(due, "bridge 0 bar 1 to 2train 3;", 18, 1);
        fault(due, "bridge 0 train3;", 9, 1);
        fault(due, "bridge 0x;", 7, 1);
        fault(due, "0bridge 0;", 0, 1);
        fault(due, "bridgeX 0;", 0, 1);
        fault(due, "bridgeA 0;", 0, 1);
        fault(due, "bridgeZ 0;", 0, 1);
        fault(due, "bridge 0X;", 7, 1);
        fault(due, "bridge 0;bridge1;", 9, 1);
    }

    private static void grammar(Due due) {
        due.sentence("TEXT: { 'bridge' NUMBER { ( 'bar' NUMBER 'to' NUMBER | 'train' NUMBER ) } ; }.");
        fine(due, "", 0);
        fine(due, "bridge 0;", 1);
        fine(due, "bridge 0 train 5;", 1);
        fine(due, "bridge 0 bar 5 to 6;", 1);
        fine(due, "bridge 0 train 5 bar 5 to 6 bar 5 to 6 train 5;", 1);
        fine(due, "bridge 7;bridge 6;bridge 5;bridge 4;bridge 3;bridge 2;bridge 1;bridge 0;", 8);
    }

    private static void grammarBroken(Due due) {
        due.sentence("2 one that can't come");
        String[] tokens = {"bridge", "bar", "to", "train", "other", "3", ";"};
        String[] texts = {"", "bridge ", "bridge 2 ", "bridge 2 bar ", "bridge 2 bar 1 ", "bridge 2 bar 1 to ", "bridge 2 train ",
            "bridge 2 bar 1 to 2 ", "bridge 2 train 1 ", "bridge 2;"};
        String[] fitting = {"bridge", "3", "bar train ;", "3", "to", "3", "3", "bar train ;", "bar train ;", "bridge"};
        for (int i = 0; i < texts.length; i++) {
            for (String token : tokens) {
                String text = texts[i] + token;
                boolean fits = (" " + fitting[i] + " ").contains(" " + token + " ");
                if (!fits) {
                    fault(due, text, texts[i].length(), 2);
                } else if (token.equals(";")) {
                    fine(due, text, 1);
                } else {
                    fault(due, text, text.length(), 2);
                }
            }
        }
    }

    private static void bridgesTold(Due due) {
        due.sentence("A BRIDGE is told once at most (0 to 7);");
        fine(due, "bridge 0;", 1);
        fine(due, "bridge 7;", 1);
        fault(due, "bridge 8;", 7, 3);
        fault(due, "bridge 9999;", 7, 3);
        fine(due, "bridge 0;bridge 7;", 2);
        for (int b = 0; b < 8; b++) {
            fault(due, "bridge " + b + ";bridge " + b + ";", 16, 4);
        }
    }

    private static void bars(Due due) {
        due.sentence("a bar from one MINUTE to another one, behind it (0 to 1440);");
        fine(due, "bridge 0 bar 0 to 1;", 1);
        fine(due, "bridge 0 bar 0 to 1440;", 1);
        fine(due, "bridge 0 bar 1439 to 1440;", 1);
        fault(due, "bridge 0 bar 0 to 0;", 18, 3);
        fault(due, "bridge 0 bar 1 to 0;", 18, 3);
        fault(due, "bridge 0 bar 0 to 1441;", 18, 3);
        fault(due, "bridge 0 bar 1441 to 1442;", 13, 3);
        fault(due, "bridge 0 bar 1440 to 1440;", 21, 3);
        fault(due, "bridge 0 bar 1440 to 1441;", 21, 3);
        fault(due, "bridge 0 bar 1440 to 0;", 21, 3);
        fault(due, "bridge 0 bar 5 to 6 bar 7 to 7;", 29, 3);
        fine(due, "bridge 0 bar 5 to 6 bar 4 to 5;", 1);
    }

    private static void trains(Due due) {
        due.sentence("a train in a MINUTE (0 to 1440);");
        fine(due, "bridge 0 train 0;", 1);
        fine(due, "bridge 0 train 1440;", 1);
        fault(due, "bridge 0 train 1441;", 15, 3);
        fault(due, "bridge 0 train 9999;", 15, 3);
    }

    private static void twelve(Due due) {
        due.sentence("12 of both for a BRIDGE at most.");
        fine(due, "bridge 1" + TRAINS_12 + ";", 1);
        fine(due, "bridge 1" + " bar 1 to 2".repeat(12) + ";", 1);
        fine(due, "bridge 1" + " bar 1 to 2 train 9".repeat(6) + ";", 1);
        fine(due, "bridge 1" + TRAINS_12 + ";bridge 2" + TRAINS_12 + ";bridge 0" + TRAINS_12 + ";", 3);
        fault(due, "bridge 1" + TRAINS_12 + " train 9;", 105, 4);
        fault(due, "bridge 1" + TRAINS_12 + " bar 1 to 2;", 105, 4);
        fault(due, "bridge 1" + " bar 1 to 2".repeat(12) + " train 9;", 141, 4);
        fault(due, "bridge 1" + " bar 1 to 2 train 9".repeat(6) + " bar 1 to 2;", 123, 4);
        fault(due, "bridge 1;bridge 2" + TRAINS_12 + ";bridge 0" + TRAINS_12 + " train 9;", 9 + 8 + 96 + 1 + 8 + 96 + 1, 4);
    }

    private static void firstAlongTheText(Due due) {
        due.sentence("FAULTS, the first along the text");
        fault(due, "bridge 8; bridge 8; ?", 7, 3);
        fault(due, "bridge 0; bridge 0; ?", 17, 4);
        fault(due, "bridge 0 to ?", 9, 2);
        fault(due, "? bridge 8", 0, 1);
        fault(due, "bridge 0" + TRAINS_12 + " train ?", 105, 4);
        fault(due, "bridge 0 bar 9 to 9 ?", 18, 3);
        fault(due, "bridge 0 bar 1441 to 1", 13, 3);
    }

    private static void leastOfOneToken(Due due) {
        due.sentence("of one TOKEN the least:");
        fault(due, "bridge 0 bar 1 9999;", 15, 2);
        fault(due, "bridge 0 8;", 9, 2);
        fault(due, "9999", 0, 2);
        fault(due, "99999", 0, 1);
        fault(due, "bridge 0;bridge 0x", 16, 1);
        fault(due, "bridge 0" + TRAINS_12 + " train1", 105, 1);
        fault(due, "bridge 0" + TRAINS_12 + " to", 105, 2);
        fault(due, "bridge 0" + TRAINS_12 + " 9999", 105, 2);
        fault(due, "bridge 0" + TRAINS_12, 104, 2);
    }

    private static void noToken(Due due) {
        due.sentence("1 no TOKEN (at its first byte);");
        fault(due, "?", 0, 1);
        fault(due, "  ??", 2, 1);
        fault(due, "bridge 12345", 7, 1);
        fault(due, "bridge a1b2c3", 7, 1);
        fault(due, "bridge?", 6, 1);
        fault(due, "bridge 0?", 8, 1);
        fault(due, "bridge 0;?", 9, 1);
    }

    private static void theEnd(Due due) {
        due.sentence("(the end: how many bytes there are;");
        fault(due, "bridge", 6, 2);
        fault(due, "bridge  ", 8, 2);
        fault(due, "bridge 0", 8, 2);
        fault(due, "bridge 0\n\n", 10, 2);
        fault(due, "bridge 0 bar", 12, 2);
        fault(due, "bridge 0 bar 1", 14, 2);
        fault(due, "bridge 0 bar 1 to", 17, 2);
        fault(due, "bridge 0 bar 1 to 2", 19, 2);
        fault(due, "bridge 0 train", 14, 2);
        fault(due, "bridge 0 train 1", 16, 2);
        fault(due, "bridge 0;bridge", 15, 2);
        fault(due, "bridge" + " ".repeat(393), 399, 2);
        fault(due, "bridge" + " ".repeat(394), 400, 2);
    }

    private static void fourHundred(Due due) {
        due.sentence("TIMETABLE is a text of at most 400 bytes:");
        due.sentence("400, if there are more and no FAULT is ahead:");
        fine(due, " ".repeat(400), 0);
        fine(due, " ".repeat(391) + "bridge 0;", 1);
        fine(due, "bridge 0;" + " ".repeat(391), 1);
        fine(due, "bridge 0;".replace(" ", " ".repeat(392)), 1);
        fault(due, "bridge 0;" + " ".repeat(392), 400, 2);
        fault(due, " ".repeat(392) + "bridge 0;", 400, 2);
        fault(due, " ".repeat(401), 400, 2);
        fault(due, " ".repeat(440), 400, 2);
        fault(due, "\n".repeat(440), 400, 2);
        fault(due, " ".repeat(400) + "?", 400, 2);
        fault(due, " ".repeat(400) + "bridge 0;", 400, 2);
        fault(due, "bridge 0" + " ".repeat(392) + ";", 400, 2);
        fault(due, "bridge 0" + " ".repeat(432), 400, 2);
        fault(due, "bridge 0;" + " ".repeat(390) + "?", 399, 1);
        fault(due, "bridge 0;" + " ".repeat(390) + "? ", 399, 1);
        fault(due, "bridge 0;" + " ".repeat(390) + ";;", 399, 2);
        fault(due, "? " + " ".repeat(438), 0, 1);
        StringBuilder many = new StringBuilder();
        for (int b = 0; b < 3; b++) {
            many.append("bridge ").append(b).append(" train 1234".repeat(12)).append("; ");
        }
        fault(due, many.toString(), 400, 2);
        fault(due, "bridge 0;" + ";".repeat(431), 9, 2);
    }

    private static void readWhole(Due due) {
        due.sentence("TOKENS that begin ahead of it are read whole");
        fault(due, " ".repeat(399) + "bridge 0;", 400, 2);
        fault(due, " ".repeat(399) + "bridges 0;", 399, 2);
        fault(due, " ".repeat(399) + "b", 399, 2);
        fault(due, " ".repeat(399) + "bridge0;", 399, 1);
        fault(due, " ".repeat(399) + "bridge" + "x".repeat(35), 399, 2);
        fault(due, " ".repeat(400) + "bridge0;", 400, 2);
        fault(due, "bridge " + " ".repeat(392) + "0007;", 400, 2);
        fault(due, "bridge " + " ".repeat(392) + "0008;", 399, 3);
        fault(due, "bridge " + " ".repeat(392) + "00070;", 399, 1);
        fault(due, "bridge " + " ".repeat(392) + "0x", 399, 1);
        fault(due, "bridge 0;bridge " + " ".repeat(383) + "0000;", 399, 4);
        fault(due, "bridge 0 bar 5 to " + " ".repeat(381) + "10;", 400, 2);
        fault(due, "bridge 0 bar 5 to " + " ".repeat(381) + "05;", 399, 3);
        fault(due, "bridge 0" + TRAINS_12 + " ".repeat(295) + "train 1;", 399, 4);
        fault(due, "bridge 0" + TRAINS_12 + " ".repeat(295) + "trains 1;", 399, 2);
    }

    private static void numberNotAsTold(Due due) {
        due.sentence("3 a NUMBER that is not as told (at it);");
        fault(due, "bridge   8;", 9, 3);
        fault(due, "bridge 0 bar   1441 to 2;", 15, 3);
        fault(due, "bridge 0 bar 1 to   1441;", 20, 3);
        fault(due, "bridge 0 bar 100 to   99;", 22, 3);
        fault(due, "bridge 0 train   1441;", 17, 3);
        fault(due, "bridge 0 train 1441", 15, 3);
        fault(due, "bridge 0;bridge 1;bridge 2 train 1 train 1441;", 41, 3);
    }

    private static void toldTwice(Due due) {
        due.sentence("4 a BRIDGE told twice (at its NUMBER), a thirteenth (at its WORD).");
        fault(due, "bridge 3;bridge   3;", 18, 4);
        fault(due, "bridge 3;bridge 0003;", 16, 4);
        fault(due, "bridge 3;bridge 4;bridge 3", 25, 4);
        fault(due, "bridge 0;bridge 1;bridge 2;bridge 3;bridge 4;bridge 5;bridge 6;bridge 7;bridge 7;", 79, 4);
        fault(due, "bridge 0;bridge 1;bridge 2;bridge 3;bridge 4;bridge 5;bridge 6;bridge 7;bridge 8;", 79, 3);
    }

    private static void thirteenth(Due due) {
        due.sentence("4 a BRIDGE told twice (at its NUMBER), a thirteenth (at its WORD).");
        fault(due, "bridge 0" + TRAINS_12 + "   train", 107, 4);
        fault(due, "bridge 0" + TRAINS_12 + "\nbar", 105, 4);
        fault(due, "bridge 0" + TRAINS_12 + " bar ;", 105, 4);
        fault(due, "bridge 0" + " train 9".repeat(11) + " train;", 8 + 88 + 6, 2);
    }

    private static RiverBridges told(String text) {
        RiverBridges x = Due.river(2);
        Due.timetable(x, text);
        return x;
    }

    private static void shutFromTo(Due due, RiverBridges x, int first, int last) {
        for (int m = Math.max(0, first - 3); m <= Math.min(1440, last + 3); m++) {
            due.is("barred(0, " + m + ")", x.barred(0, m), m >= first && m <= last ? 1 : 0);
        }
    }

    private static void barTimes(Due due) {
        due.sentence("SHUT TIMES of a BRIDGE: MINUTES from a bar's first one to the one ahead of its last one;");
        shutFromTo(due, told("bridge 0 bar 10 to 20;"), 10, 19);
        shutFromTo(due, told("bridge 0 bar 10 to 11;"), 10, 10);
        shutFromTo(due, told("bridge 0 bar 0 to 1;"), 0, 0);
        shutFromTo(due, told("bridge 0 bar 1439 to 1440;"), 1439, 1439);
        shutFromTo(due, told("bridge 0 bar 1400 to 1440;"), 1400, 1439);
        shutFromTo(due, told("bridge 0 bar 10 to 20 bar 20 to 30;"), 10, 29);
        shutFromTo(due, told("bridge 0 bar 15 to 30 bar 10 to 20;"), 10, 29);
        RiverBridges all = told("bridge 0 bar 0 to 1440;");
        for (int m = 0; m <= 1440; m += 5) {
            due.is("barred(0, " + m + ")", all.barred(0, m), m < 1440 ? 1 : 0);
        }
    }

    private static void trainTimes(Due due) {
        due.sentence("from 2 ahead of a train's to 2 behind it.");
        shutFromTo(due, told("bridge 0 train 100;"), 98, 102);
        shutFromTo(due, told("bridge 0 train 100 train 105;"), 98, 107);
        shutFromTo(due, told("bridge 0 train 0;"), 0, 2);
        shutFromTo(due, told("bridge 0 train 1;"), 0, 3);
        shutFromTo(due, told("bridge 0 train 2;"), 0, 4);
        shutFromTo(due, told("bridge 0 train 3;"), 1, 5);
        shutFromTo(due, told("bridge 0 train 1438;"), 1436, 1440);
        shutFromTo(due, told("bridge 0 train 1439;"), 1437, 1440);
        shutFromTo(due, told("bridge 0 train 1440;"), 1438, 1440);
    }

    /** The day has one end and one beginning: what is barred at one is not barred at the other. */
    private static void noWrapAround(Due due) {
        due.sentence("MINUTES 0 to 1440 (a day).");
        RiverBridges early = told("bridge 0 train 0 bar 0 to 1;");
        RiverBridges late = told("bridge 0 train 1440 bar 1439 to 1440;");
        for (int m = 0; m <= 2; m++) {
            due.is("a late train, barred(0, " + m + ")", late.barred(0, m), 0);
            due.is("an early train, barred(0, " + (1440 - m) + ")", early.barred(0, 1440 - m), 0);
        }
    }

    private static void timetableNow(Due due) {
        due.sentence("The tape is the TIMETABLE now: how many BRIDGES it tells of;");
        RiverBridges x = Due.river(2);
        due.is("one", Due.timetable(x, "bridge 0 train 50 train 60;"), 1);
        due.is("the tape is empty then", x.count(6), 0);
        due.is("another one", Due.timetable(x, "bridge 1 bar 70 to 71;bridge 5;"), 2);
        due.is("the older one is gone", x.barred(0, 50), 0);
        due.is("the newer one is there", x.barred(1, 70), 1);
        due.is("it tells of a BRIDGE again", Due.timetable(x, "bridge 0 train 90;"), 1);
        due.is("its older trains are gone", x.barred(0, 50) + x.barred(0, 60), 0);
        due.is("its newer one is there", x.barred(0, 90), 1);
        due.is("the other BRIDGE has none", x.barred(1, 70), 0);
        due.is("it has twelve", Due.timetable(x, "bridge 0" + TRAINS_12 + ";"), 1);
        due.is("twelve again", Due.timetable(x, "bridge 0" + " bar 30 to 31".repeat(12) + ";"), 1);
        due.is("the newer ones are there", x.barred(0, 30), 1);
        due.is("the older ones are gone", x.barred(0, 9), 0);
        due.is("an empty tape", x.timetable(), 0);
        due.is("none is there", x.barred(0, 30), 0);
    }

    private static void timetableStays(Due due) {
        due.sentence("-1 - the place of a FAULT: it stays;");
        String[] faulty = {"?", "bridge 0 train 90", "bridge 0 train 90;bridge 1 train 90;bridge 1;", "bridge 0;bridge 8;",
            "bridge 0" + TRAINS_12 + " train 9;", " ".repeat(401)};
        int[] places = {0, 17, 43, 16, 105, 400};
        RiverBridges x = told("bridge 0 train 50;bridge 1 bar 3 to 4;");
        for (int i = 0; i < faulty.length; i++) {
            due.is("timetable() of [" + faulty[i] + "]", Due.timetable(x, faulty[i]), -1 - places[i]);
            due.is("the tape is empty then", x.count(6), 0);
            due.is("barred(0, 50)", x.barred(0, 50), 1);
            due.is("barred(1, 3)", x.barred(1, 3), 1);
            due.is("barred(0, 90)", x.barred(0, 90), 0);
            due.is("barred(1, 90)", x.barred(1, 90), 0);
            due.is("barred(0, 9)", x.barred(0, 9), 0);
        }
    }

    private static void timetableLate(Due due) {
        due.sentence("-500: MINUTE is not 0.");
        RiverBridges x = Due.river(1);
        x.go(0);
        due.is("timetable() behind go(0)", Due.timetable(x, "bridge 0 train 50;"), 1);
        x.go(1);
        due.is("timetable() in MINUTE 1", Due.timetable(x, "bridge 0 train 90;"), -500);
        due.is("one with a FAULT", Due.timetable(x, "?"), -500);
        due.is("an empty one", x.timetable(), -500);
        due.is("the tape is empty then", x.count(6), 0);
        x.go(1440);
        due.is("timetable() in MINUTE 1440", Due.timetable(x, "bridge 0 train 90;"), -500);
        due.is("barred(0, 50)", x.barred(0, 50), 1);
        due.is("barred(0, 90)", x.barred(0, 90), 0);
    }

    private static void faultKind(Due due) {
        due.sentence("The kind of the FAULT of the latest timetable() that did not tell -500; 0 without one and ahead of any.");
        RiverBridges x = Due.river(1);
        due.is("ahead of any", x.fault(), 0);
        String[] texts = {"?", "", ";", "bridge 0;", "bridge 8", "bridge 0;bridge 0;", "bridge 0;bridge 0;"};
        int[] kinds = {1, 0, 2, 0, 3, 4, 4};
        for (int i = 0; i < texts.length; i++) {
            Due.timetable(x, texts[i]);
            due.is("behind [" + texts[i] + "]", x.fault(), kinds[i]);
        }
        x.tide();
        due.is("behind tide()", x.fault(), 4);
        x.go(1);
        due.is("in MINUTE 1", x.fault(), 4);
        Due.timetable(x, "?");
        due.is("behind one that told -500", x.fault(), 4);
        Due.timetable(x, "");
        due.is("behind another one", x.fault(), 4);
        RiverBridges y = new RiverBridges();
        y.go(1);
        Due.timetable(y, "?");
        due.is("ahead of any but one that told -500", y.fault(), 0);
    }

    private static void barred(Due due) {
        due.sentence("1 a MINUTE (0 to 1440) is of the SHUT TIMES of BRIDGE b, 0 not; NONE: no such ones.");
        RiverBridges x = Due.river(2);
        Due.timetable(x, "bridge 1 train 0 train 1440;bridge 2 train 0;");
        due.is("barred(1, 0)", x.barred(1, 0), 1);
        due.is("barred(1, 1440)", x.barred(1, 1440), 1);
        due.is("barred(0, 0)", x.barred(0, 0), 0);
        due.is("barred(0, 1440)", x.barred(0, 1440), 0);
        for (int m : new int[] {-1, -2, 1441, 1442, LEAST_INT, MOST_INT}) {
            due.is("barred(1, " + m + ")", x.barred(1, m), -1);
        }
        for (int b : new int[] {-1, 2, 7, 8, LEAST_INT, MOST_INT}) {
            due.is("barred(" + b + ", 0)", x.barred(b, 0), -1);
        }
        x.bridge(10, 1, 1, 1, 0, 1);
        due.is("a BRIDGE behind the TIMETABLE that tells of it", x.barred(2, 0), 1);
    }
}
