/** Promises 7, 9 to 13, 27 and 28: PLACES, COSTS, BEST, WHOSE, MIXED, misreadings and ERRORS. */
public final class SkyTest {

    public static void main(String[] args) {
        places();
        placesRefused();
        costs();
        dates();
        best();
        bestRefused();
        whose();
        mixed();
        misreadings();
        errors();
        Check.end("SkyTest");
    }

    private static void places() {
        WheelBook x = Tell.withHouse("set 0 sun at 21599 goes 2000000;set 1 moon at 0 goes 1999;"
                + "set 2 mars at 10 goes 0 swing 7 in 3;set 3 saturn at 0 goes 0 swing 10800 in 1000000;");
        Check.is("7: at", x.place(0, 0, 0), 21599);
        Check.is("7: goes", x.place(0, 0, 1), 1999);
        Check.is("7: goes far", x.place(0, 0, 1000000), (21599L + 2000000000L) % 21600);
        Check.is("7: cut down", x.place(1, 1, 1), 1);
        Check.is("7: cut down", x.place(1, 1, 1000), 1999);
        // P 3: x 0, 1, 2 give 2*3-3 = 3, 2*1-3 = -1, 2*1-3 = -1, by 7 and 3: 7, -7/3 towards less -3
        Check.is("7: swing", x.place(2, 4, 0), 17);
        Check.is("7: swing cut towards less", x.place(2, 4, 1), 7);
        Check.is("7: swing cut towards less", x.place(2, 4, 2), 7);
        Check.is("7: swing comes again", x.place(2, 4, 3), 17);
        Check.is("7: long swing", x.place(3, 6, 0), 10800);
        Check.is("7: long swing, MOD", x.place(3, 6, 500000), 10800);
        Check.is("7: long swing", x.place(3, 6, 250000), 0);
        Check.is("7: long swing", x.place(3, 6, 400000), 21600 - 6480);
        Check.is("7: long swing", x.place(3, 6, 1000000), 10800);
        Check.is("7: not told", x.place(3, 5, 1000000), 0);
        Tell.house(x, "set 3 sun at 5 goes 0 swing 1 in 2;");
        Check.is("7: least swing", x.place(3, 0, 0), 6);
        Check.is("7: least swing", x.place(3, 0, 1), 4);
    }

    private static void placesRefused() {
        WheelBook x = new WheelBook();
        Check.missing("7: SET 4", () -> x.place(4, 0, 0));
        Check.missing("7: SET -1", () -> x.place(-1, 0, 0));
        Check.missing("7: WANDERER 7", () -> x.place(0, 7, 0));
        Check.missing("7: WANDERER -1", () -> x.place(0, -1, 0));
        Check.missing("7: DAY -1", () -> x.place(0, 0, -1));
        Check.missing("7: DAY 1,000,001", () -> x.place(0, 0, 1000001));
    }

    /** By SET 0 the sun goes one DEGREE a DAY, the moon stands at SIGN 10, degree 10. */
    private static WheelBook plainSky() {
        return Tell.withHouse("set 0 sun at 0 goes 60000;set 0 moon at 18600 goes 0;"
                + "hand 12 for 11;hand 2 for 10;hand 3 for 1;");
    }

    private static void costs() {
        WheelBook x = plainSky();
        Tell.told(x, 0, 0, "sun 0 12;");
        Check.is("9: it is that", x.cost(0, 0, 0, 12), 0);
        Check.is("9: the degree was misread", x.cost(0, 0, 0, 11), 1);
        Check.is("9: not the other way round", x.cost(0, 0, 0, 13), 9);
        Tell.told(x, 0, 0, "sun 0 11;");
        Check.is("9: a HAND has one way alone", x.cost(0, 0, 0, 12), 9);
        Tell.told(x, 0, 0, "sun 3 12;");
        Check.is("9: the SIGN was misread", x.cost(0, 0, 0, 42), 1);
        Check.is("9: one of both must be alike", x.cost(0, 0, 0, 41), 9);
        Tell.told(x, 0, 0, "sun 0 12;moon 2 10;rise 0 0;lot 1 1;house 1 2 2;");
        Check.is("9: the sum of all WANDERERS", x.cost(0, 0, 0, 11), 2);
        Check.is("9: the sum of all WANDERERS", x.cost(0, 0, 0, 100), 10);
        Check.is("9: by another SET", x.cost(0, 0, 1, 11), 18);
        Check.is("9: a WHEEL that tells nothing", x.cost(5, 19, 3, 1000000), 0);
        Check.missing("9: BOOK", () -> x.cost(6, 0, 0, 0));
        Check.missing("9: WHEEL", () -> x.cost(0, 20, 0, 0));
        Check.is("9: SET 3", x.cost(0, 0, 3, 0), 18);
        Check.missing("9: SET", () -> x.cost(0, 0, 4, 0));
        Check.missing("9: SET", () -> x.cost(0, 0, -1, 0));
        Check.missing("9: DAY", () -> x.cost(0, 0, 0, 1000001));
        Check.missing("9: DAY", () -> x.cost(0, 0, 0, -1));
    }

    private static void dates() {
        WheelBook x = plainSky();
        Tell.told(x, 0, 0, "date 12 4;");
        Check.is("9: the DATE", x.cost(0, 0, 0, 364), 0);
        Check.is("9: the DATE, years on", x.cost(0, 0, 0, 729), 0);
        Check.is("9: another", x.cost(0, 0, 0, 365), 30);
        Tell.told(x, 0, 0, "sun 0 5;date 0 5;");
        Check.is("9: both", x.cost(0, 0, 0, 5), 0);
        Check.is("9: sun alone", x.cost(0, 0, 0, 725), 30);
        Check.is("9: neither", x.cost(0, 0, 0, 6), 39);
    }

    private static void best() {
        WheelBook x = plainSky();
        Tell.told(x, 1, 3, "sun 0 12;");
        Check.is("10: none, of 0 further", x.best(1, 3, 0, 13, 0), 9);
        Check.is("11: one DAY", x.day(-1), 1);
        Check.is("11: that", x.day(0), 13);
        Check.is("10: COST 1", x.best(1, 3, 0, 0, 11), 1);
        Check.is("11: one DAY", x.day(-1), 1);
        Check.is("11: the 11th", x.day(0), 11);
        Check.is("10: COST 0", x.best(1, 3, 0, 11, 361), 0);
        Check.is("11: the last one counts", x.day(-1), 2);
        Check.is("11: 12", x.day(0), 12);
        Check.is("11: 372", x.day(1), 372);
        Check.missing("11: no more", () -> x.day(2));
        Check.missing("11: below NONE", () -> x.day(-2));
        Check.is("10: many", x.best(1, 3, 0, 0, 50000), 0);
        Check.is("11: many", x.day(-1), 139);
        Check.is("11: the 20th", x.day(19), 12 + 360 * 19);
        Check.missing("11: the first 20 alone are kept", () -> x.day(20));
        Check.is("10: at the end", x.best(1, 3, 0, 1000000, 0), 9);
        Check.is("11: at the end", x.day(0), 1000000);
        Check.is("10: to the end", x.best(1, 3, 0, 950000, 50000), 0);
        Check.is("12: whose keeps nothing", x.whose(1, 3, 0, 5, 1), 9);
        Check.is("11: 950052 is the first", x.day(0), 950052);
    }

    private static void bestRefused() {
        WheelBook x = plainSky();
        Check.missing("11: none yet", () -> x.day(-1));
        Check.missing("11: none yet", () -> x.day(0));
        x.best(0, 0, 0, 5, 1);
        Check.illegal("10: further -1", () -> x.best(0, 0, 0, 0, -1));
        Check.illegal("10: further 50,001", () -> x.best(0, 0, 0, 0, 50001));
        Check.illegal("10: comes to no DAY", () -> x.best(0, 0, 0, 1000000, 1));
        Check.illegal("10: far too far", () -> x.best(0, 0, 0, 1000000, Integer.MAX_VALUE));
        Check.missing("10: DAY comes first", () -> x.best(0, 0, 0, -1, 50001));
        Check.missing("10: DAY", () -> x.best(0, 0, 0, 1000001, 0));
        Check.missing("10: SET", () -> x.best(0, 0, 4, 0, 0));
        Check.missing("10: SET", () -> x.best(0, 0, -1, 0, 0));
        Check.missing("10: BOOK", () -> x.best(6, 0, 0, 0, 0));
        Check.missing("10: WHEEL", () -> x.best(0, -1, 0, 0, 0));
        Check.is("11: what was kept stays", x.day(1), 6);
        Check.is("10: by SET 3", x.best(0, 0, 3, 7, 0), 0);
    }

    private static void whose() {
        WheelBook x = Tell.withHouse("set 0 sun at 0 goes 0;set 1 sun at 660 goes 0;set 2 sun at 720 goes 60000;"
                + "set 3 sun at 660 goes 0;hand 12 for 11;");
        Tell.told(x, 0, 0, "sun 0 12;");
        Check.is("12: SET", x.whose(0, 0, 0, 9, 0), 2);
        Check.is("12: COST", x.whose(0, 0, 0, 9, 1), 0);
        Check.is("12: by how many", x.whose(0, 0, 0, 9, 2), 1);
        Check.is("12: the last DAY counts", x.whose(0, 0, 351, 9, 1), 0);
        Check.is("12: the DAY behind it doesn't", x.whose(0, 0, 350, 9, 1), 1);
        Tell.told(x, 0, 1, "sun 0 0;");
        Check.is("12: SET 0", x.whose(0, 1, 0, 9, 0), 0);
        Check.is("12: SET 0 alone", x.whose(0, 1, 0, 9, 2), 1);
        Check.is("12: of like ones the least", x.whose(0, 0, 1, 9, 0), 1);
        Check.is("12: COST 1", x.whose(0, 0, 1, 9, 1), 1);
        Check.is("12: two SETS", x.whose(0, 0, 1, 9, 2), 2);
        Check.missing("12: what 3", () -> x.whose(0, 0, 0, 0, 3));
        Check.missing("12: what -1", () -> x.whose(0, 0, 0, 0, -1));
        Check.missing("12: what comes first", () -> x.whose(0, 0, 0, 50001, 3));
        Check.missing("12: DAY", () -> x.whose(0, 0, 1000001, 0, 0));
        Check.missing("12: BOOK", () -> x.whose(-1, 0, 0, 0, 0));
        Check.missing("12: WHEEL", () -> x.whose(0, 20, 0, 0, 0));
        Check.illegal("12: further", () -> x.whose(0, 0, 0, 50001, 0));
        Check.illegal("12: further", () -> x.whose(0, 0, 999999, 2, 0));
        Check.missing("12: no BEST by it", () -> x.day(-1));
    }

    private static void mixed() {
        WheelBook x = Tell.withHouse("set 0 sun at 0 goes 60000;set 1 moon at 0 goes 60000;hand 5 for 6;"
                + "set 2 sun at 600 goes 0;set 2 moon at 600 goes 0;set 3 sun at 21540 goes 0;set 3 moon at 21540 goes 0;"
                + "set 0 moon at 1200 goes 0;set 1 sun at 1200 goes 0;");
        Tell.told(x, 0, 0, "sun 0 5;moon 0 5;date 12 4;");
        Check.is("13: DATES count for nothing", x.mixed(0, 0, 0, 359), 1);
        Check.is("13: that DAY alone", x.mixed(0, 0, 5, 0), 1);
        Check.is("13: COST 1 is not enough", x.mixed(0, 0, 6, 0), 0);
        Check.is("13: from a DAY on", x.mixed(0, 0, 2, 3), 1);
        Check.is("13: not ahead of it", x.mixed(0, 0, 6, 300), 0);
        Check.is("13: not behind its end", x.mixed(0, 0, 2, 2), 0);
        Tell.told(x, 0, 0, "sun 0 10;moon 0 10;");
        Check.is("13: all by one", x.mixed(0, 0, 0, 359), 0);
        Tell.told(x, 0, 0, "sun 0 5;");
        Check.is("13: one WANDERER is by one", x.mixed(0, 0, 0, 359), 0);
        Check.is("13: nothing told", x.mixed(0, 1, 0, 359), 0);
        Tell.told(x, 0, 0, "sun 0 10;moon 11 29;");
        Check.is("13: each of 101 DAYS", x.mixed(0, 0, 999900, 100), 101);
        Check.missing("13: DAY", () -> x.mixed(0, 0, -1, 50001));
        Check.missing("13: BOOK", () -> x.mixed(6, 0, 0, 0));
        Check.missing("13: WHEEL", () -> x.mixed(0, 20, 0, 0));
        Check.illegal("13: further", () -> x.mixed(0, 0, 0, -1));
        Check.illegal("13: further", () -> x.mixed(0, 0, 1000000, 1));
    }

    private static void misreadings() {
        WheelBook x = plainSky();
        Tell.told(x, 2, 2, "sun 0 12;moon 2 10;");
        Check.is("27: alike", x.misread(2, 2, 0, 12, 0), 0);
        Check.is("27: its degree", x.misread(2, 2, 0, 11, 0), 1);
        Check.is("27: its SIGN", x.misread(2, 2, 0, 11, 1), 2);
        Check.is("27: neither", x.misread(2, 2, 0, 100, 0), 9);
        Check.is("27: not told", x.misread(2, 2, 0, 100, 6), -1);
        Tell.told(x, 2, 2, "moon 10 12;");
        Check.is("27: its degree, but by no HAND", x.misread(2, 2, 0, 0, 1), 9);
        Check.missing("27: WANDERER", () -> x.misread(2, 2, 0, 0, 7));
        Check.missing("27: WANDERER", () -> x.misread(2, 2, 0, 0, -1));
        Check.is("27: SET 3", x.misread(2, 2, 3, 0, 1), 9);
        Check.missing("27: SET", () -> x.misread(2, 2, 4, 0, 0));
        Check.missing("27: SET", () -> x.misread(2, 2, -1, 0, 0));
        Check.missing("27: DAY", () -> x.misread(2, 2, 0, 1000001, 0));
        Check.missing("27: BOOK", () -> x.misread(6, 2, 0, 0, 0));
        Check.missing("27: WHEEL", () -> x.misread(2, 20, 0, 0, 0));
    }

    /** Sun shared by SETS 1, 2 and 3, moon by 2 and 3, mars by 2 alone, venus by none, saturn no ERROR. */
    private static void errors() {
        WheelBook x = Tell.withHouse("set 1 sun at 659 goes 0;set 2 sun at 600 goes 0;set 3 sun at 600 goes 0;"
                + "set 2 moon at 600 goes 0;set 3 moon at 600 goes 0;set 2 mars at 600 goes 0;"
                + "set 1 saturn at 9 goes 0;hand 10 for 0;");
        Tell.told(x, 0, 0, "sun 0 10;moon 0 10;mars 0 10;venus 0 9;saturn 0 0;");
        int[] due = {4, 2, 1, 3, 2, 0, 1, 0, 2, 2 + 3 + 6, 2 + 3};
        for (int what = 0; what <= 10; what++) {
            Check.is("28: errors, what " + what, x.errors(0, 0, 77, what), due[what]);
        }
        Tell.told(x, 0, 1, "sun 0 10;");
        Check.is("28: of like ones the least", x.errors(0, 1, 0, 1), 1);
        Tell.told(x, 0, 2, "sun 0 10;");
        Tell.house(x, "set 1 sun at 0 goes 0;set 2 sun at 0 goes 0;");
        Check.is("28: the sun by SET 3 alone", x.errors(0, 2, 0, 7), 1);
        Check.is("28: its WEIGHT", x.errors(0, 2, 0, 10), 6);
        Check.is("28: followed", x.errors(0, 2, 0, 1), 3);
        Tell.told(x, 0, 2, "venus 5 5;");
        Check.is("28: followed by none", x.errors(0, 2, 0, 1), -1);
        Check.is("28: an ERROR yet", x.errors(0, 2, 0, 0), 1);
        Check.is("28: nothing told", x.errors(0, 3, 0, 0), 0);
        Check.missing("28: what 11", () -> x.errors(0, 0, 0, 11));
        Check.missing("28: what -1", () -> x.errors(0, 0, 0, -1));
        Check.missing("28: DAY", () -> x.errors(0, 0, 1000001, 0));
        Check.missing("28: BOOK", () -> x.errors(6, 0, 0, 0));
        Check.missing("28: WHEEL", () -> x.errors(0, 20, 0, 0));
    }
}
