/** Each sentence on PLACES, COSTS, BEST, SEARCHES and ERRORS (parts 1 and 3, promises 7, 9 to 13, 22 to 28) that names a boundary. */
public final class SkyEdgesTest {
    private static final int LAST = 1000000;
    private static final String[] NAMES = {"sun", "moon", "mercury", "venus", "mars", "jupiter", "saturn"};

    public static void main(String[] args) {
        wanderersSetsAndDays();
        places();
        placeRefused();
        degrees();
        signs();
        goes();
        swings();
        partsCutDownEach();
        zeroAtFirst();
        costOfEntry();
        costOfWheel();
        costOfDate();
        costRefused();
        bestSpan();
        bestRefused();
        bestKeepsTwenty();
        dayRefused();
        whose();
        whoseRefused();
        mixed();
        mixedRefused();
        errors();
        weights();
        followed();
        errorsRefused();
        misread();
        Check.end("SkyEdgesTest");
    }

    /** By SET 0 the sun goes one minute a DAY, from PLACE 0 on DAY 0. */
    private static WheelBook minutes() {
        return Tell.withHouse("set 0 sun at 0 goes 1000;");
    }

    private static void wanderersSetsAndDays() {
        Check.sentence("WANDERERS 0 sun, 1 moon, 2 mercury, 3 venus, 4 mars, 5 jupiter, 6 saturn. SETS of tables 0 to 3; DAYS 0 to 1,000,000.");
        WheelBook x = new WheelBook();
        for (int i = 0; i < 28; i++) {
            Tell.house(x, "set " + i / 7 + " " + NAMES[i % 7] + " at " + 60 * i + " goes 1;");
        }
        for (int i = 0; i < 28; i++) {
            Check.is("7: SET " + i / 7 + ", " + NAMES[i % 7] + ", DAY 0", x.place(i / 7, i % 7, 0), 60 * i);
            Check.is("7: SET " + i / 7 + ", " + NAMES[i % 7] + ", the last DAY", x.place(i / 7, i % 7, LAST), 60 * i + 1000);
        }
        for (int wanderer = 0; wanderer < 7; wanderer++) {
            Tell.told(x, 0, wanderer, NAMES[wanderer] + " 0 " + (7 + wanderer) + ";");
            for (int set = 0; set < 4; set++) {
                Check.is("9: " + NAMES[wanderer] + " by SET " + set, x.cost(0, wanderer, set, 0), set == 1 ? 0 : 9);
                Check.is("27: " + NAMES[wanderer] + " by SET " + set, x.misread(0, wanderer, set, 0, wanderer), set == 1 ? 0 : 9);
            }
        }
    }

    private static void placeRefused() {
        Check.sentence("A PLACE by a SET. NoSuchElementException: no such SET (as everywhere), WANDERER, DAY.");
        WheelBook x = minutes();
        Check.is("7: SET 0, WANDERER 0, DAY 0", x.place(0, 0, 0), 0);
        Check.is("7: SET 3, WANDERER 6, DAY 1,000,000", x.place(3, 6, LAST), 0);
        Check.missing("7: SET 4", () -> x.place(4, 0, 0));
        Check.missing("7: SET -1", () -> x.place(-1, 6, 0));
        Check.missing("7: WANDERER 7", () -> x.place(0, 7, 0));
        Check.missing("7: WANDERER -1", () -> x.place(1, -1, 0));
        Check.missing("7: DAY 1,000,001", () -> x.place(0, 0, LAST + 1));
        Check.missing("7: DAY -1", () -> x.place(0, 0, -1));
    }

    private static void places() {
        Check.sentence("PLACES are minutes 0 to 21599 of the ring");
        WheelBook x = minutes();
        Check.is("7: the first", x.place(0, 0, 0), 0);
        Check.is("7: the last", x.place(0, 0, 21599), 21599);
        Check.is("7: round the ring", x.place(0, 0, 21600), 0);
        Check.is("7: round it again", x.place(0, 0, 43199), 21599);
        Check.is("7: round it again", x.place(0, 0, 43200), 0);
        Check.is("7: on the last DAY", x.place(0, 0, LAST), 1000000 % 21600);
        Tell.house(x, "set 0 sun at 21599 goes 1000;set 0 moon at 0 goes 0 swing 1 in 2;");
        Check.is("7: AT is the last", x.place(0, 0, 0), 21599);
        Check.is("7: and one on", x.place(0, 0, 1), 0);
        Check.is("7: a swing below 0", x.place(0, 1, 1), 21599);
    }

    private static void costs(WheelBook x, String entry, int first, int last) {
        Tell.told(x, 0, 0, entry);
        if (first > 0) {
            Check.is("9: " + entry + " ahead of its first minute", x.cost(0, 0, 0, first - 1), 9);
        }
        Check.is("9: " + entry + " on its first minute", x.cost(0, 0, 0, first), 0);
        Check.is("9: " + entry + " on its last minute", x.cost(0, 0, 0, last), 0);
        Check.is("9: " + entry + " behind its last minute", x.cost(0, 0, 0, last + 1), 9);
    }

    private static void degrees() {
        Check.sentence("a DEGREE is 60 of them (0 to 359)");
        WheelBook x = minutes();
        costs(x, "sun 0 0;", 0, 59);
        costs(x, "sun 0 1;", 60, 119);
        costs(x, "sun 11 29;", 21540, 21599);
        costs(x, "sun 0 0;", 21600, 21659);
    }

    private static void signs() {
        Check.sentence("a SIGN 30 DEGREES (0 to 11)");
        WheelBook x = minutes();
        costs(x, "sun 0 29;", 1740, 1799);
        costs(x, "sun 1 0;", 1800, 1859);
        costs(x, "sun 10 29;", 19740, 19799);
        costs(x, "sun 11 0;", 19800, 19859);
    }

    private static void goes() {
        Check.sentence("A PLACE by a SET on a DAY d: AT, and GOES by d and 1000, cut down, and the SWING, MOD 21600.");
        WheelBook x = Tell.withHouse("set 0 sun at 0 goes 1;set 0 moon at 0 goes 999;set 0 mars at 21599 goes 2000000;"
                + "set 0 venus at 21599 goes 2000000 swing 10800 in 1000000;set 0 saturn at 0 goes 1999;");
        Check.is("7: 0.999", x.place(0, 0, 999), 0);
        Check.is("7: 1", x.place(0, 0, 1000), 1);
        Check.is("7: 1.999", x.place(0, 0, 1999), 1);
        Check.is("7: 999.999", x.place(0, 0, 999999), 999);
        Check.is("7: 1000", x.place(0, 0, LAST), 1000);
        Check.is("7: 0.999", x.place(0, 1, 1), 0);
        Check.is("7: 1.998", x.place(0, 1, 2), 1);
        Check.is("7: 1.999", x.place(0, 6, 1), 1);
        // 2,000,000,000 is 92,592 rounds and 12,800
        Check.is("7: the farthest", x.place(0, 4, LAST), 12799);
        Check.is("7: the farthest, with a swing", x.place(0, 3, LAST), 12799 + 10800 - 21600);
        Check.is("7: DAY 0", x.place(0, 4, 0), 21599);
    }

    private static void swings() {
        Check.sentence("SWING of A in P (days): with x being d MOD P: twice how much 2 x and P differ, less P, by A and P, "
                + "cut down (towards less).");
        WheelBook x = Tell.withHouse("set 0 sun at 100 goes 0 swing 7 in 2;set 0 moon at 100 goes 0 swing 3 in 5;"
                + "set 0 mars at 100 goes 0 swing 10 in 3;set 0 venus at 0 goes 0 swing 10800 in 1000000;"
                + "set 0 saturn at 100 goes 0 swing 0 in 7;set 0 jupiter at 100 goes 0 swing 1 in 4;");
        int[] inTwo = {107, 93, 107, 93};
        // 5, 1, -3, -3, 1 by 3 and 5: 3, 0.6, -1.8
        int[] inFive = {103, 100, 98, 98, 100, 103, 100};
        // 3, -1, -1 by 10 and 3: 10, -3.3
        int[] inThree = {110, 96, 96, 110, 96, 96, 110};
        int[] inFour = {101, 100, 99, 100, 101};
        for (int day = 0; day < inTwo.length; day++) {
            Check.is("7: in 2, DAY " + day, x.place(0, 0, day), inTwo[day]);
        }
        for (int day = 0; day < inFive.length; day++) {
            Check.is("7: in 5, DAY " + day, x.place(0, 1, day), inFive[day]);
        }
        for (int day = 0; day < inThree.length; day++) {
            Check.is("7: in 3, DAY " + day, x.place(0, 4, day), inThree[day]);
        }
        for (int day = 0; day < inFour.length; day++) {
            Check.is("7: in 4, DAY " + day, x.place(0, 5, day), inFour[day]);
        }
        for (int day = 0; day < 8; day++) {
            Check.is("7: of 0", x.place(0, 6, day), 100);
        }
        Check.is("7: the greatest", x.place(0, 3, 0), 10800);
        Check.is("7: nearly the least: -10799.9568", x.place(0, 3, 499999), 10800);
        Check.is("7: the least, MOD", x.place(0, 3, 500000), 10800);
        Check.is("7: behind the least", x.place(0, 3, 500001), 10800);
        Check.is("7: -0.0432", x.place(0, 3, 250001), 21599);
        Check.is("7: just 0", x.place(0, 3, 750000), 0);
        Check.is("7: 10,799.9568", x.place(0, 3, 999999), 10799);
        Check.is("7: x is 0 again", x.place(0, 3, LAST), 10800);
    }

    private static void partsCutDownEach() {
        Check.sentence("GOES by d and 1000, cut down, and the SWING");
        // 1.5 cut down is 1; -1/3 cut down is -1: together 0, not 1.16
        WheelBook x = Tell.withHouse("set 0 sun at 0 goes 1500 swing 1 in 3;");
        Check.is("7: each by itself", x.place(0, 0, 1), 0);
        // 3.0 and -1
        Check.is("7: each by itself", x.place(0, 0, 2), 2);
    }

    private static void zeroAtFirst() {
        Check.sentence("All are 0 at first (P 1).");
        WheelBook x = new WheelBook();
        for (int i = 0; i < 28; i++) {
            Check.is("7: DAY 0", x.place(i / 7, i % 7, 0), 0);
            Check.is("7: DAY 1", x.place(i / 7, i % 7, 1), 0);
            Check.is("7: the last DAY", x.place(i / 7, i % 7, LAST), 0);
        }
        Tell.told(x, 0, 0, "sun 0 0;moon 0 0;mercury 0 0;venus 0 0;mars 0 0;jupiter 0 0;saturn 0 0;");
        Check.is("9: all at DEGREE 0", x.cost(0, 0, 3, 17), 0);
    }

    // ---- COST

    private static void costOfEntry() {
        Check.sentence("COST of an ENTRY beside a DEGREE: 0 it is that; 1 of SIGN and degree in it one is alike, and the other one was "
                + "read for that which stood there, by a HAND (the ENTRY is what was read); 9 else.");
        WheelBook x = Tell.withHouse("hand 29 for 0;hand 11 for 0;hand 5 for 7;hand 12 for 0;");
        String[] entries = {"0 0", "0 29", "11 0", "11 29", "0 11", "0 5", "0 7", "5 0", "0 12", "1 0", "0 1"};
        int[] due = {0, 1, 1, 9, 1, 9, 9, 9, 1, 9, 9};
        int[] how = {0, 1, 2, 9, 1, 9, 9, 9, 1, 9, 9};
        for (int i = 0; i < entries.length; i++) {
            Tell.told(x, 0, 0, "sun " + entries[i] + ";");
            Check.is("9: " + entries[i] + " beside 0 0", x.cost(0, 0, 0, 0), due[i]);
            Check.is("27: " + entries[i] + " beside 0 0", x.misread(0, 0, 0, 0, 0), how[i]);
        }
        Tell.house(x, "set 0 sun at " + 60 * (7 * 30 + 7) + " goes 0;");
        String[] more = {"7 7", "5 7", "7 5", "5 5", "7 29", "0 7"};
        int[] moreDue = {0, 1, 1, 9, 9, 9};
        for (int i = 0; i < more.length; i++) {
            Tell.told(x, 0, 0, "sun " + more[i] + ";");
            Check.is("9: " + more[i] + " beside 7 7", x.cost(0, 0, 0, 0), moreDue[i]);
        }
        Tell.house(x, "set 0 sun at " + 60 * (5 * 30 + 5) + " goes 0;");
        Tell.told(x, 0, 0, "sun 5 7;");
        Check.is("9: the HAND the other way", x.cost(0, 0, 0, 0), 9);
        Tell.told(x, 0, 0, "sun 7 5;");
        Check.is("9: the HAND the other way", x.cost(0, 0, 0, 0), 9);
    }

    private static void costOfWheel() {
        Check.sentence("COST of a WHEEL on a DAY by a SET: of all WANDERERS that it tells");
        WheelBook x = Tell.withHouse("hand 1 for 0;");
        StringBuilder alike = new StringBuilder();
        StringBuilder misread = new StringBuilder();
        StringBuilder other = new StringBuilder();
        for (int i = 0; i < 7; i++) {
            alike.append(NAMES[i]).append(" 0 0;");
            misread.append(NAMES[i]).append(i % 2 == 0 ? " 0 1;" : " 1 0;");
            other.append(NAMES[i]).append(" 0 2;");
        }
        Check.is("9: nothing told", x.cost(0, 0, 0, 0), 0);
        Tell.told(x, 0, 0, alike.toString());
        Check.is("9: all alike", x.cost(0, 0, 0, 0), 0);
        Tell.told(x, 0, 0, misread.toString());
        Check.is("9: all misread", x.cost(0, 0, 0, 0), 7);
        Tell.told(x, 0, 0, other.toString());
        Check.is("9: none alike", x.cost(0, 0, 0, 0), 63);
        Tell.told(x, 0, 0, other + "date 0 1;");
        Check.is("9: the greatest", x.cost(0, 0, 0, 0), 93);
        Check.is("10: the greatest", x.best(0, 0, 3, 366 + 1, 363), 93);
        for (int i = 0; i < 7; i++) {
            Tell.told(x, 0, 0, NAMES[i] + " 0 2;");
            Check.is("9: " + NAMES[i], x.cost(0, 0, 0, 0), 9);
        }
        Tell.told(x, 0, 0, "rise 5 5;lot 5 5;house 1 5 5;house 12 5 5;");
        Check.is("9: no WANDERER", x.cost(0, 0, 0, 0), 0);
    }

    private static void costOfDate() {
        Check.sentence("and 30, if it tells a DATE that isn't DAY MOD 365");
        WheelBook x = new WheelBook();
        Tell.told(x, 0, 0, "date 0 0;");
        int[] days = {0, 1, 364, 365, 366, 730, 999735, 999736, LAST};
        int[] first = {0, 30, 30, 0, 30, 0, 0, 30, 30};
        for (int i = 0; i < days.length; i++) {
            Check.is("9: DATE 0, DAY " + days[i], x.cost(0, 0, 0, days[i]), first[i]);
        }
        Tell.told(x, 0, 0, "date 12 4;");
        int[] last = {30, 30, 0, 30, 30, 30, 30, 30, 30};
        for (int i = 0; i < days.length; i++) {
            Check.is("9: DATE 364, DAY " + days[i], x.cost(0, 0, 0, days[i]), last[i]);
        }
        // 1,000,000 is 2739 by 365, and 265
        Tell.told(x, 0, 0, "date 8 25;");
        Check.is("9: DATE 265, the last DAY", x.cost(0, 0, 0, LAST), 0);
    }

    private static void costRefused() {
        Check.sentence("COST of a WHEEL on a DAY by a SET. NoSuchElementException: also no such DAY.");
        WheelBook x = minutes();
        Check.is("9: DAY 0", x.cost(0, 0, 0, 0), 0);
        Check.is("9: DAY 1,000,000", x.cost(5, 19, 3, LAST), 0);
        Check.missing("9: DAY 1,000,001", () -> x.cost(0, 0, 0, LAST + 1));
        Check.missing("9: DAY -1", () -> x.cost(0, 0, 0, -1));
        Check.missing("9: SET 4", () -> x.cost(0, 0, 4, 0));
        Check.missing("9: SET -1", () -> x.cost(0, 0, -1, 0));
        Check.missing("9: BOOK 6", () -> x.cost(6, 0, 0, 0));
        Check.missing("9: BOOK -1", () -> x.cost(-1, 0, 0, 0));
        Check.missing("9: WHEEL 20", () -> x.cost(0, 20, 0, 0));
        Check.missing("9: WHEEL -1", () -> x.cost(0, -1, 0, 0));
    }

    // ---- BEST, WHOSE, MIXED

    private static void bestSpan() {
        Check.sentence("BEST by a SET, from a DAY to a DAY (at most 50,000 further): the least COST; the DAYS that have it.");
        WheelBook x = minutes();
        Tell.told(x, 0, 0, "sun 0 1;");
        Check.is("10: up to the DAY ahead of it", x.best(0, 0, 0, 0, 59), 9);
        Check.is("11: all of them", x.day(-1), 60);
        Check.is("10: up to the very DAY", x.best(0, 0, 0, 0, 60), 0);
        Check.is("11: it alone", x.day(-1), 1);
        Check.is("11: it alone", x.day(0), 60);
        Check.is("10: from the last such DAY on", x.best(0, 0, 0, 119, 21540), 0);
        Check.is("11: and the next, a round on", x.day(-1), 1);
        Check.is("10: from the last such DAY on", x.best(0, 0, 0, 119, 21541), 0);
        Check.is("11: and the next, a round on", x.day(-1), 2);
        Check.is("11: and the next, a round on", x.day(1), 21660);
        Check.is("10: from the DAY behind it", x.best(0, 0, 0, 120, 21539), 9);
        Check.is("10: 0 further", x.best(0, 0, 0, 60, 0), 0);
        Check.is("11: one DAY", x.day(-1), 1);
        Check.is("10: 50,000 further, nothing told", x.best(5, 19, 3, 0, 50000), 0);
        Check.is("11: both ends count", x.day(-1), 50001);
        Check.is("10: to the last DAY", x.best(5, 19, 3, 950000, 50000), 0);
        Check.is("11: both ends count", x.day(-1), 50001);
        Check.is("10: the last DAY alone", x.best(5, 19, 3, LAST, 0), 0);
        Check.is("11: the last DAY alone", x.day(0), LAST);
    }

    private static void bestRefused() {
        Check.sentence("IllegalArgumentException: further is not 0 to 50,000, or comes to no DAY.");
        WheelBook x = minutes();
        Tell.told(x, 0, 0, "sun 0 1;");
        x.best(0, 0, 0, 7, 1);
        Check.illegal("10: -1", () -> x.best(0, 0, 0, 0, -1));
        Check.illegal("10: 50,001", () -> x.best(0, 0, 0, 0, 50001));
        Check.illegal("10: least", () -> x.best(0, 0, 0, LAST, Integer.MIN_VALUE));
        Check.illegal("10: greatest", () -> x.best(0, 0, 0, LAST, Integer.MAX_VALUE));
        Check.illegal("10: to 1,000,001", () -> x.best(0, 0, 0, LAST, 1));
        Check.illegal("10: to 1,000,001", () -> x.best(0, 0, 0, 950001, 50000));
        Check.illegal("10: to 1,000,001", () -> x.best(0, 0, 0, 999999, 2));
        Check.sentence("NoSuchElementException: also no such DAY.");
        Check.missing("10: BOOK comes first", () -> x.best(6, 0, 0, 0, -1));
        Check.missing("10: WHEEL comes first", () -> x.best(0, 20, 0, 0, -1));
        Check.missing("10: SET comes first", () -> x.best(0, 0, 4, 0, -1));
        Check.missing("10: DAY comes first", () -> x.best(0, 0, 0, LAST + 1, 50001));
        Check.missing("10: DAY comes first", () -> x.best(0, 0, 0, -1, 0));
        Check.is("11: the latest BEST stays", x.day(-1), 2);
        Check.is("11: the latest BEST stays", x.day(0), 7);
    }

    private static void bestKeepsTwenty() {
        Check.sentence("the COST; its DAYS are kept (the first 20)");
        WheelBook x = new WheelBook();
        x.best(0, 0, 0, 100, 18);
        Check.is("11: 19", x.day(-1), 19);
        Check.is("11: the 19th", x.day(18), 118);
        Check.missing("11: no 20th", () -> x.day(19));
        x.best(0, 0, 0, 200, 19);
        Check.is("11: 20", x.day(-1), 20);
        Check.is("11: the 20th", x.day(19), 219);
        Check.missing("11: no 21st", () -> x.day(20));
        x.best(0, 0, 0, 300, 20);
        Check.is("11: 21", x.day(-1), 21);
        Check.is("11: the first", x.day(0), 300);
        Check.is("11: the 20th", x.day(19), 319);
        Check.missing("11: the 21st is not kept", () -> x.day(20));
        Tell.house(x, "set 0 sun at 0 goes 60000;");
        Tell.told(x, 0, 0, "sun 0 25;");
        Check.is("10: 25 DAYS of COST 9, then one of 0", x.best(0, 0, 0, 0, 25), 0);
        Check.is("11: that alone", x.day(-1), 1);
        Check.is("11: that alone", x.day(0), 25);
        Check.missing("11: no more", () -> x.day(1));
    }

    private static void dayRefused() {
        Check.sentence("How many DAYS the latest BEST had (i NONE), the i-th of those that are kept. "
                + "NoSuchElementException: there is none, none yet.");
        WheelBook x = new WheelBook();
        Check.missing("11: none yet", () -> x.day(-1));
        Check.missing("11: none yet", () -> x.day(0));
        x.seek(0, 0, 0, 0);
        x.on(5);
        x.whose(0, 0, 0, 5, 0);
        x.mixed(0, 0, 0, 5);
        Check.missing("11: a SEARCH is no BEST", () -> x.day(-1));
        x.best(0, 0, 0, 3, 1);
        Check.is("11: two", x.day(-1), 2);
        Check.is("11: the last", x.day(1), 4);
        Check.missing("11: i is 2", () -> x.day(2));
        Check.missing("11: i is -2", () -> x.day(-2));
        Check.missing("11: least", () -> x.day(Integer.MIN_VALUE));
        Check.missing("11: greatest", () -> x.day(Integer.MAX_VALUE));
        x.best(0, 0, 0, 8, 0);
        Check.is("11: the latest counts", x.day(-1), 1);
        Check.missing("11: the latest counts", () -> x.day(1));
    }

    private static void whose() {
        Check.sentence("WHOSE: the SET by which that is least, of like ones the least SET.");
        for (int bits = 1; bits < 16; bits++) {
            StringBuilder tables = new StringBuilder("set 0 moon at 0 goes 0;");
            int least = -1;
            for (int set = 3; set >= 0; set--) {
                boolean fits = (bits >> set & 1) == 1;
                tables.append("set ").append(set).append(" sun at ").append(fits ? 300 : 0).append(" goes 0;");
                least = fits ? set : least;
            }
            WheelBook x = Tell.withHouse(tables.toString());
            Tell.told(x, 0, 0, "sun 0 5;moon 1 1;");
            Check.is("12: the SET, of " + bits, x.whose(0, 0, 0, 3, 0), least);
            Check.is("12: the COST, of " + bits, x.whose(0, 0, 0, 3, 1), 9);
            Check.is("12: how many, of " + bits, x.whose(0, 0, 0, 3, 2), Integer.bitCount(bits));
        }
        WheelBook x = new WheelBook();
        Check.is("12: nothing told", x.whose(0, 0, 0, 50000, 0), 0);
        Check.is("12: nothing told", x.whose(0, 0, 950000, 50000, 1), 0);
        Check.is("12: nothing told", x.whose(0, 0, LAST, 0, 2), 4);
        Tell.told(x, 0, 0, "sun 5 5;");
        Check.is("12: by none it fits", x.whose(0, 0, 0, 9, 0), 0);
        Check.is("12: by none it fits", x.whose(0, 0, 0, 9, 1), 9);
        Check.is("12: by none it fits", x.whose(0, 0, 0, 9, 2), 4);
        Tell.house(x, "set 3 sun at 0 goes 1000;");
        // by SET 3 the sun comes to DEGREE 155 on DAY 9300
        Check.is("12: the DAY ahead of it", x.whose(0, 0, 9000, 299, 2), 4);
        Check.is("12: the very DAY", x.whose(0, 0, 9000, 300, 0), 3);
        Check.is("12: the last such DAY", x.whose(0, 0, 9359, 0, 2), 1);
        Check.is("12: the DAY behind it", x.whose(0, 0, 9360, 50, 0), 0);
    }

    private static void whoseRefused() {
        Check.sentence("WHOSE, likewise (nothing is kept): the SET (what 0), the COST (1), by how many SETS it is that (2). "
                + "NoSuchElementException: also another what.");
        WheelBook x = new WheelBook();
        x.best(0, 0, 0, 40, 2);
        Check.is("12: another span", x.whose(0, 0, 7, 0, 1), 0);
        Check.is("11: nothing is kept", x.day(-1), 3);
        Check.is("11: nothing is kept", x.day(0), 40);
        Check.missing("12: what 3", () -> x.whose(0, 0, 0, 0, 3));
        Check.missing("12: what -1", () -> x.whose(0, 0, 0, 0, -1));
        Check.missing("12: what comes first", () -> x.whose(0, 0, 0, -1, 3));
        Check.missing("12: BOOK", () -> x.whose(6, 0, 0, 0, 0));
        Check.missing("12: WHEEL", () -> x.whose(0, 20, 0, 0, 0));
        Check.missing("12: DAY", () -> x.whose(0, 0, LAST + 1, 0, 0));
        Check.missing("12: DAY", () -> x.whose(0, 0, -1, 0, 0));
        Check.illegal("12: -1", () -> x.whose(0, 0, 0, -1, 0));
        Check.illegal("12: 50,001", () -> x.whose(0, 0, 0, 50001, 0));
        Check.illegal("12: to 1,000,001", () -> x.whose(0, 0, LAST, 1, 2));
        Check.illegal("12: to 1,000,001", () -> x.whose(0, 0, 950001, 50000, 1));
        Check.illegal("12: greatest", () -> x.whose(0, 0, LAST, Integer.MAX_VALUE, 1));
    }

    private static void mixed() {
        Check.sentence("MIXED are DAYS on which each WANDERER that is told is at COST 0 by some SET, but not all by one "
                + "(DATES count for nothing).");
        // sun by SET 0, moon by 1, mars by 2, saturn by 3
        WheelBook x = Tell.withHouse("set 0 sun at 300 goes 0;set 1 moon at 300 goes 0;set 2 mars at 300 goes 0;"
                + "set 3 saturn at 300 goes 0;hand 6 for 5;");
        Check.is("13: nothing told is all by one", x.mixed(0, 0, 0, 9), 0);
        Tell.told(x, 0, 0, "rise 0 5;date 0 0;");
        Check.is("13: no WANDERER told", x.mixed(0, 0, 0, 9), 0);
        Tell.told(x, 0, 0, "sun 0 5;");
        Check.is("13: one WANDERER is by one", x.mixed(0, 0, 0, 9), 0);
        Tell.told(x, 0, 0, "sun 0 5;moon 0 5;");
        Check.is("13: two, by two", x.mixed(0, 0, 0, 9), 10);
        Tell.told(x, 0, 0, "sun 0 5;moon 0 5;date 0 5;");
        Check.is("13: the DATE counts for nothing", x.mixed(0, 0, 0, 9), 10);
        Tell.told(x, 0, 0, "sun 0 5;moon 0 5;mars 0 5;saturn 0 5;");
        Check.is("13: four, by four", x.mixed(0, 0, 0, 9), 10);
        Tell.told(x, 0, 0, "sun 0 5;moon 0 5;mars 0 5;saturn 0 6;");
        Check.is("13: one at COST 1 alone", x.mixed(0, 0, 0, 9), 0);
        Tell.told(x, 0, 0, "sun 0 5;moon 0 5;mars 0 5;saturn 0 7;");
        Check.is("13: one at COST 9", x.mixed(0, 0, 0, 9), 0);
        Tell.told(x, 0, 0, "sun 0 5;moon 0 0;mars 0 0;saturn 0 0;");
        Check.is("13: all by SET 0, some by others too", x.mixed(0, 0, 0, 9), 0);
        Tell.told(x, 0, 0, "sun 0 0;moon 0 0;mars 0 0;saturn 0 5;");
        Check.is("13: all by SET 3", x.mixed(0, 0, 0, 9), 0);
        Tell.house(x, "set 1 moon at 0 goes 1000;set 0 moon at 21000 goes 0;set 1 sun at 21000 goes 0;"
                + "set 2 moon at 21000 goes 0;set 3 moon at 21000 goes 0;");
        Tell.told(x, 0, 0, "sun 0 5;moon 0 5;");
        Check.is("13: DAYS 300 to 359 of a round", x.mixed(0, 0, 0, 50000), 180);
        Check.is("13: ahead of them", x.mixed(0, 0, 0, 299), 0);
        Check.is("13: the first", x.mixed(0, 0, 0, 300), 1);
        Check.is("13: the last", x.mixed(0, 0, 359, 0), 1);
        Check.is("13: behind them", x.mixed(0, 0, 360, 100), 0);
    }

    private static void mixedRefused() {
        Check.sentence("How many MIXED DAYS, likewise.");
        WheelBook x = new WheelBook();
        Check.is("13: 50,000 further", x.mixed(0, 0, 0, 50000), 0);
        Check.is("13: to the last DAY", x.mixed(5, 19, 950000, 50000), 0);
        Check.is("13: the last DAY", x.mixed(0, 0, LAST, 0), 0);
        Check.illegal("13: -1", () -> x.mixed(0, 0, 0, -1));
        Check.illegal("13: 50,001", () -> x.mixed(0, 0, 0, 50001));
        Check.illegal("13: to 1,000,001", () -> x.mixed(0, 0, LAST, 1));
        Check.illegal("13: to 1,000,001", () -> x.mixed(0, 0, 950001, 50000));
        Check.illegal("13: greatest", () -> x.mixed(0, 0, LAST, Integer.MAX_VALUE));
        Check.missing("13: BOOK comes first", () -> x.mixed(6, 0, 0, -1));
        Check.missing("13: WHEEL comes first", () -> x.mixed(0, 20, 0, -1));
        Check.missing("13: DAY comes first", () -> x.mixed(0, 0, LAST + 1, -1));
        Check.missing("13: DAY comes first", () -> x.mixed(0, 0, -1, 50001));
    }

    // ---- ERRORS

    private static void errors() {
        Check.sentence("ERRORS of a WHEEL on a DAY: WANDERERS that it tells at another DEGREE than SET 0 does. "
                + "SHARED by a SET (1 to 3): those at its DEGREE.");
        WheelBook x = Tell.withHouse("set 0 sun at 0 goes 1000;set 1 sun at 60 goes 1000;hand 0 for 1;");
        Tell.told(x, 0, 0, "sun 0 1;rise 5 5;date 0 7;");
        Check.is("28: DAY 59, by SET 0 at DEGREE 0", x.errors(0, 0, 59, 0), 1);
        Check.is("28: shared by SET 1", x.errors(0, 0, 59, 2), 1);
        Check.is("28: not by SET 2", x.errors(0, 0, 59, 3), 0);
        Check.is("28: DAY 60, at DEGREE 1", x.errors(0, 0, 60, 0), 0);
        Check.is("28: no ERROR is shared", x.errors(0, 0, 60, 2), 0);
        Check.is("28: DAY 119", x.errors(0, 0, 119, 0), 0);
        Check.is("28: DAY 120", x.errors(0, 0, 120, 0), 1);
        Check.is("28: by SET 1 at DEGREE 3", x.errors(0, 0, 120, 2), 0);
        Tell.told(x, 0, 0, "sun 0 0;");
        Check.is("28: at COST 1 it is an ERROR yet", x.errors(0, 0, 60, 0), 1);
        Tell.told(x, 0, 0, "sun 0 1;moon 0 1;mercury 0 1;venus 0 1;mars 0 1;jupiter 0 1;saturn 0 1;");
        Check.is("28: all seven", x.errors(0, 0, 0, 0), 7);
        Check.is("28: the sun by SET 1", x.errors(0, 0, 0, 2), 1);
        Tell.told(x, 0, 0, "rise 5 5;lot 5 5;house 1 5 5;date 5 5;");
        Check.is("28: no WANDERER", x.errors(0, 0, 0, 0), 0);
    }

    /** Of each row of SETS that share a WANDERER's DEGREE what is SHARED, ALONE and WEIGHED. */
    private static void weights() {
        Check.sentence("ALONE: those that of 1 to 3 it alone shares. WEIGHT of a SET: of each it shares 6 by how many of 1 to 3 do (6, 3, 2).");
        for (int i = 0; i < 7 * 8; i++) {
            weightsOf(NAMES[i / 8], i % 8);
        }
        WheelBook x = Tell.withHouse("set 0 moon at 600 goes 0;set 1 moon at 600 goes 0;");
        Tell.told(x, 0, 0, "moon 0 10;");
        Check.is("28: no ERROR, not SHARED", x.errors(0, 0, 0, 2), 0);
        Check.is("28: no ERROR, not ALONE", x.errors(0, 0, 0, 5), 0);
        Check.is("28: no ERROR, no WEIGHT", x.errors(0, 0, 0, 8), 0);
    }

    private static void weightsOf(String name, int bits) {
        int[] shares = {0, 6, 3, 2};
        StringBuilder tables = new StringBuilder();
        for (int set = 1; set <= 3; set++) {
            boolean shared = (bits >> set - 1 & 1) == 1;
            tables.append("set ").append(set).append(' ').append(name).append(" at ").append(shared ? 600 : 1200).append(" goes 0;");
        }
        WheelBook x = Tell.withHouse(tables.toString());
        Tell.told(x, 0, 0, name + " 0 10;");
        int many = Integer.bitCount(bits);
        Check.is("28: an ERROR, " + name, x.errors(0, 0, 0, 0), 1);
        for (int set = 1; set <= 3; set++) {
            boolean shared = (bits >> set - 1 & 1) == 1;
            Check.is("28: SHARED by " + set + " of " + bits, x.errors(0, 0, 0, 1 + set), shared ? 1 : 0);
            Check.is("28: ALONE by " + set + " of " + bits, x.errors(0, 0, 0, 4 + set), shared && many == 1 ? 1 : 0);
            Check.is("28: WEIGHT of " + set + " of " + bits, x.errors(0, 0, 0, 7 + set), shared ? shares[many] : 0);
        }
        Check.is("28: FOLLOWED of " + bits, x.errors(0, 0, 0, 1), bits == 0 ? -1 : Integer.numberOfTrailingZeros(bits) + 1);
    }

    private static void followed() {
        Check.sentence("FOLLOWED: the SET of the greatest WEIGHT, of like ones the least (NONE: of 0).");
        WheelBook x = Tell.withHouse("set 1 sun at 600 goes 0;set 2 moon at 600 goes 0;set 3 mars at 600 goes 0;"
                + "set 1 venus at 600 goes 0;set 2 venus at 600 goes 0;set 2 saturn at 600 goes 0;set 3 saturn at 600 goes 0;");
        String[] wheels = {"sun 0 10;moon 0 10;mars 0 10;", "moon 0 10;mars 0 10;", "mars 0 10;", "sun 0 10;moon 0 10;saturn 0 10;",
            "venus 0 10;saturn 0 10;", "venus 0 10;", "saturn 0 10;", "sun 0 10;venus 0 10;moon 0 10;", "mars 0 10;saturn 0 10;moon 0 10;",
            "sun 0 11;", "sun 0 0;", ""};
        int[] due = {1, 2, 3, 2, 2, 1, 2, 1, 2, -1, -1, -1};
        for (int i = 0; i < wheels.length; i++) {
            Tell.told(x, 0, 0, wheels[i]);
            Check.is("28: FOLLOWED by " + wheels[i], x.errors(0, 0, 5, 1), due[i]);
        }
        Tell.told(x, 0, 0, "mars 0 10;saturn 0 10;");
        Check.is("28: SET 3 by 9 to 3", x.errors(0, 0, 5, 1), 3);
    }

    private static void errorsRefused() {
        Check.sentence("ERRORS on a DAY (what 0), FOLLOWED (1), of a SET 1 to 3 the SHARED (2 to 4), those ALONE (5 to 7), "
                + "its WEIGHT (8 to 10). NoSuchElementException: also no such DAY, another what.");
        WheelBook x = new WheelBook();
        Check.is("28: DAY 0", x.errors(0, 0, 0, 0), 0);
        Check.is("28: the last DAY", x.errors(5, 19, LAST, 10), 0);
        Check.missing("28: what 11", () -> x.errors(0, 0, 0, 11));
        Check.missing("28: what -1", () -> x.errors(0, 0, 0, -1));
        Check.missing("28: DAY 1,000,001", () -> x.errors(0, 0, LAST + 1, 0));
        Check.missing("28: DAY -1", () -> x.errors(0, 0, -1, 0));
        Check.missing("28: BOOK 6", () -> x.errors(6, 0, 0, 0));
        Check.missing("28: WHEEL 20", () -> x.errors(0, 20, 0, 0));
    }

    private static void misread() {
        Check.sentence("What a WANDERER's ENTRY is beside a SET on a DAY: 0 alike, 1 its degree, 2 its SIGN was misread, 9 neither, "
                + "NONE: it isn't told. NoSuchElementException: also no such SET, WANDERER, DAY.");
        WheelBook x = Tell.withHouse("set 3 saturn at 0 goes 1000;hand 1 for 0;");
        Tell.told(x, 5, 19, "saturn 0 1;jupiter 1 0;mars 1 1;venus 0 0;");
        Check.is("27: its degree, DAY 59", x.misread(5, 19, 3, 59, 6), 1);
        Check.is("27: alike, DAY 60", x.misread(5, 19, 3, 60, 6), 0);
        Check.is("27: neither, DAY 120", x.misread(5, 19, 3, 120, 6), 9);
        Check.is("27: its SIGN", x.misread(5, 19, 0, LAST, 5), 2);
        Check.is("27: both, so neither", x.misread(5, 19, 0, 0, 4), 9);
        Check.is("27: alike", x.misread(5, 19, 1, 0, 3), 0);
        Check.is("27: not told", x.misread(5, 19, 0, 0, 0), -1);
        Check.missing("27: SET 4", () -> x.misread(5, 19, 4, 0, 0));
        Check.missing("27: SET -1", () -> x.misread(5, 19, -1, 0, 0));
        Check.missing("27: WANDERER 7", () -> x.misread(5, 19, 0, 0, 7));
        Check.missing("27: WANDERER -1", () -> x.misread(5, 19, 0, 0, -1));
        Check.missing("27: DAY 1,000,001", () -> x.misread(5, 19, 0, LAST + 1, 0));
        Check.missing("27: DAY -1", () -> x.misread(5, 19, 0, -1, 0));
        Check.missing("27: BOOK 6", () -> x.misread(6, 19, 0, 0, 0));
        Check.missing("27: WHEEL 20", () -> x.misread(5, 20, 0, 0, 0));
    }
}
