/** Promises 14 to 20 and 29: CLIMBS, RISE, MIDDLE, HOURS, houses and THE LOT. */
public final class ClimateTest {

    public static void main(String[] args) {
        noClimates();
        climbs();
        rises();
        middles();
        hours();
        housesBySignAndDegree();
        housesByMiddle();
        agreements();
        possibleWays();
        unevenLevel();
        lots();
        Check.end("ClimateTest");
    }

    private static WheelBook twoClimates() {
        return Tell.withHouse(Tell.LEVEL + Tell.STEEP);
    }

    private static void noClimates() {
        WheelBook x = new WheelBook();
        Check.missing("14: no CLIMATE", () -> x.climb(0, 0));
        Check.missing("15: no CLIMATE", () -> x.rise(0, 0, 0));
        Check.missing("16: no CLIMATE", () -> x.middle(0, 0));
        Check.missing("18: no CLIMATE", () -> x.houseOf(0, 2, 0, 1));
        Check.is("18: WAY 0 asks for none", x.houseOf(0, 0, -7, 1), 0);
        Check.is("18: WAY 1 asks for none", x.houseOf(0, 1, 99, 1), 0);
        Tell.told(x, 0, 0, "sun 0 0;rise 0 0;");
        Check.is("17: no HOURS", x.hour(0, 0, -1), 0);
        Check.is("29: no CLIMATE by which all agree", x.possible(0, 0, 0), 3);
        Check.is("29: no CLIMATES", x.possible(0, 0, 1), 0);
    }

    private static void climbs() {
        WheelBook x = twoClimates();
        Check.is("14: level", x.climb(0, 0), 0);
        Check.is("14: level", x.climb(0, 12345), 12345 * 300);
        Check.is("14: level", x.climb(0, 21599), 6479700);
        Check.is("14: steep, in the first SIGN", x.climb(1, 1799), 200 * 1799);
        Check.is("14: steep, where the second begins", x.climb(1, 1800), 200 * 1800);
        Check.is("14: steep, in the second", x.climb(1, 1801), 200 * 1800 + 240);
        Check.is("14: steep, half way", x.climb(1, 10800), 1800 * 1800);
        Check.is("14: steep, last", x.climb(1, 21599), 6480000 - 200);
        Check.missing("14: CLIMATE 2", () -> x.climb(2, 0));
        Check.missing("14: CLIMATE -1", () -> x.climb(-1, 0));
        Check.missing("14: PLACE 21600", () -> x.climb(0, 21600));
        Check.missing("14: PLACE -1", () -> x.climb(0, -1));
    }

    private static void rises() {
        WheelBook x = twoClimates();
        Check.is("15: level", x.rise(0, 0, 1), 60);
        Check.is("15: level, round the ring", x.rise(0, 21599, 1), 59);
        Check.is("15: level, far", x.rise(0, 30, 359), 30 + 359 * 60);
        Check.is("15: at once", x.rise(1, 5555, 0), 5555);
        Check.is("15: steep", x.rise(1, 0, 1), 90);
        Check.is("15: steep, cut down", x.rise(1, 1800, 7), 1800 + 18000 * 7 / 240);
        Check.is("15: steep, just a SIGN on", x.rise(1, 0, 20), 1800);
        Check.is("15: steep, round the ring", x.rise(1, 21599, 359), 21509);
        Check.missing("15: TIME 360", () -> x.rise(0, 0, 360));
        Check.missing("15: TIME -1", () -> x.rise(0, 0, -1));
        Check.missing("15: PLACE 21600", () -> x.rise(0, 21600, 0));
        Check.missing("15: PLACE -1", () -> x.rise(0, -1, 0));
        Check.missing("15: CLIMATE", () -> x.rise(2, 0, 0));
    }

    private static void middles() {
        WheelBook x = twoClimates();
        Check.is("16: level", x.middle(0, 0), 16200);
        Check.is("16: level", x.middle(0, 5399), 21599);
        Check.is("16: level", x.middle(0, 5400), 0);
        // CLIMB 200 * 100 = 20,000; less 1,620,000: 4,880,000; by 300 cut down: 16,266
        Check.is("16: steep, by the level one", x.middle(1, 100), 16266);
        Check.is("16: steep", x.middle(1, 10800), 5400);
        Check.is("16: the last PLACE", x.middle(0, 21599), 16199);
        Tell.house(x, "climate 2 1 299 600 300 300 300 300 300 300 300 300 300;");
        // the CLIMB of PLACE 5400 is 1800 * 900 = 1,620,000: just 0; that of 5399 is 600 less: 2 PLACES ahead
        Check.is("16: just 0", x.middle(2, 5400), 0);
        Check.is("16: just ahead of it", x.middle(2, 5399), 21598);
        Check.is("16: CLIMB 299, cut down", x.middle(2, 299), 16200);
        Check.is("16: CLIMB 300", x.middle(2, 300), 16201);
        Check.is("15: RISING 1", x.rise(2, 0, 0), 0);
        Check.is("15: RISING 1", x.rise(2, 7, 0), 7);
        Check.is("15: RISING 1", x.climb(2, 1799), 1799);
        Check.missing("16: PLACE", () -> x.middle(0, 21600));
        Check.missing("16: PLACE", () -> x.middle(0, -1));
        Check.missing("16: CLIMATE", () -> x.middle(3, 0));
    }

    private static void hours() {
        WheelBook x = twoClimates();
        Tell.told(x, 0, 0, "sun 0 0;rise 1 5;");
        // level: 35 times. steep: DEGREE 35 is CLIMB 360,000 + 300 * 240 to + 359 * 240, that is TIMES 24 (432,000)
        Check.is("17: how many", x.hour(0, 0, -1), 2);
        Check.is("17: by CLIMATE 0", x.hour(0, 0, 0), 35);
        Check.is("17: by CLIMATE 1", x.hour(0, 0, 1), 360 + 24);
        Check.missing("17: no more", () -> x.hour(0, 0, 2));
        Check.missing("17: below NONE", () -> x.hour(0, 0, -2));
        Tell.told(x, 0, 1, "sun 5 0;rise 6 29;");
        // steep: 60 * 59 minutes of RISING 400 on from SIGN 5: CLIMB on 1,416,000 to below 1,440,000: TIME 79 alone
        Check.is("17: later SIGNS", x.hour(0, 1, -1), 2);
        Check.is("17: later SIGNS", x.hour(0, 1, 1), 360 + 79);
        Tell.told(x, 0, 3, "sun 3 3;rise 3 3;");
        Check.is("17: at once, by both, and 56 minutes on", x.hour(0, 3, -1), 3);
        Check.is("17: TIME 0", x.hour(0, 3, 0), 0);
        Check.is("17: TIME 0", x.hour(0, 3, 1), 360);
        Check.is("29: TIME 0 is an HOUR", x.possible(0, 3, 1), 3);
        Tell.told(x, 0, 3, "sun 3 3;rise 3 2;");
        Check.is("17: TIME 359", x.hour(0, 3, 0), 359);
        Tell.told(x, 0, 2, "sun 0 0;");
        Check.is("17: RISE isn't told", x.hour(0, 2, -1), -1);
        Check.missing("17: RISE isn't told", () -> x.hour(0, 2, 0));
        Tell.told(x, 0, 2, "rise 0 0;");
        Check.is("17: sun isn't told", x.hour(0, 2, -1), -1);
        Check.missing("17: sun isn't told", () -> x.hour(0, 2, 0));
        Check.missing("17: BOOK", () -> x.hour(6, 0, -1));
        Check.missing("17: WHEEL", () -> x.hour(0, 20, -1));
    }

    private static void housesBySignAndDegree() {
        WheelBook x = twoClimates();
        for (int house = 1; house <= 12; house++) {
            Check.is("18: WAY 0", x.houseOf(95, 0, 0, house), (90 + 30 * (house - 1)) % 360);
            Check.is("18: WAY 1", x.houseOf(95, 1, 0, house), (95 + 30 * (house - 1)) % 360);
        }
        Check.is("18: WAY 0, last SIGN", x.houseOf(359, 0, 0, 1), 330);
        Check.is("18: WAY 0, round the ring", x.houseOf(359, 0, 0, 2), 0);
        Check.missing("18: DEGREE 360", () -> x.houseOf(360, 0, 0, 1));
        Check.missing("18: DEGREE -1", () -> x.houseOf(-1, 0, 0, 1));
        Check.missing("18: WAY 3", () -> x.houseOf(0, 3, 0, 1));
        Check.missing("18: WAY -1", () -> x.houseOf(0, -1, 0, 1));
        Check.missing("18: house 0", () -> x.houseOf(0, 0, 0, 0));
        Check.missing("18: house 13", () -> x.houseOf(0, 0, 0, 13));
        Check.missing("18: CLIMATE 2", () -> x.houseOf(0, 2, 2, 1));
        Check.missing("18: CLIMATE -1", () -> x.houseOf(0, 2, -1, 1));
    }

    private static void housesByMiddle() {
        WheelBook x = twoClimates();
        // DEGREE 40: CLIMB 360,000 + 600 * 240 = 504,000; less 1,620,000, MOD: 5,364,000; by 300: 17,880: DEGREE 298
        // from 10 to 1: 102; thirds 34, 68; from 1 to 4 (118): 78; thirds 26, 52
        int[] due = {40, 66, 92, 118, 332 - 180, 366 - 180, 220, 246, 272, 298, 332, 6};
        for (int house = 1; house <= 12; house++) {
            Check.is("18: WAY 2, house " + house, x.houseOf(40, 2, 1, house), due[house - 1]);
        }
        // DEGREE 41: CLIMB 518,400; 5,378,400 by 300: 17,928: DEGREE 298; 103: thirds 34, 68; 77: thirds 25, 51
        int[] next = {41, 66, 92, 118, 152, 186, 221, 246, 272, 298, 332, 6};
        for (int house = 1; house <= 12; house++) {
            Check.is("18: WAY 2 cut down, house " + house, x.houseOf(41, 2, 1, house), next[house - 1]);
        }
    }

    private static void agreements() {
        WheelBook x = twoClimates();
        Tell.told(x, 1, 1, "rise 1 10;house 1 1 10;house 2 2 6;house 3 3 0;house 4 3 28;house 12 0 10;");
        Check.is("19: WAY 0", x.agree(1, 1, 0, 55), 1);
        Check.is("19: WAY 1", x.agree(1, 1, 1, -5), 2);
        Check.is("19: WAY 2", x.agree(1, 1, 2, 1), 3);
        Check.is("19: WAY 2, level", x.agree(1, 1, 2, 0), 2);
        Tell.told(x, 1, 2, "house 1 1 10;sun 1 1;");
        Check.is("19: RISE isn't told", x.agree(1, 2, 0, 0), -1);
        Tell.told(x, 1, 2, "rise 1 10;");
        Check.is("19: no houses", x.agree(1, 2, 0, 0), 0);
        Check.missing("19: WAY 3", () -> x.agree(1, 1, 3, 0));
        Check.missing("19: WAY -1", () -> x.agree(1, 1, -1, 0));
        Check.missing("19: CLIMATE 2", () -> x.agree(1, 1, 2, 2));
        Check.missing("19: CLIMATE, RISE not told", () -> x.agree(1, 3, 2, 2));
        Check.missing("19: BOOK", () -> x.agree(6, 1, 0, 0));
        Check.missing("19: WHEEL", () -> x.agree(1, 20, 0, 0));
    }

    private static void possibleWays() {
        WheelBook x = twoClimates();
        Tell.told(x, 0, 0, "rise 1 10;sun 0 0;");
        Check.is("29: no houses: all WAYS", x.possible(0, 0, 0), 7);
        // level: TIME 40. steep: DEGREE 40 is CLIMB 504,000 to below 518,400: TIME 28
        Check.is("29: both CLIMATES", x.possible(0, 0, 1), 3);
        Tell.told(x, 0, 0, "rise 1 10;sun 0 0;house 2 2 6;house 4 3 28;");
        Check.is("29: WAY 2 alone", x.possible(0, 0, 0), 4);
        Check.is("29: CLIMATE 1 alone", x.possible(0, 0, 1), 2);
        Tell.told(x, 0, 0, "rise 1 10;sun 0 0;house 2 2 6;house 4 4 10;");
        Check.is("29: not by one CLIMATE", x.possible(0, 0, 0), 0);
        Check.is("29: none", x.possible(0, 0, 1), 0);
        Tell.told(x, 0, 0, "rise 1 10;sun 0 0;house 4 4 10;");
        Check.is("29: WAYS 1 and 2", x.possible(0, 0, 0), 6);
        Check.is("29: CLIMATE 0", x.possible(0, 0, 1), 1);
        Tell.told(x, 0, 0, "rise 1 10;sun 0 0;house 5 5 10;house 9 9 10;house 3 3 10;");
        Check.is("29: WAY 1", x.possible(0, 0, 0), 6);
        Tell.told(x, 0, 0, "rise 0 2;sun 0 0;house 2 1 2;house 11 10 1;");
        Check.is("29: neither", x.possible(0, 0, 0), 0);
        Tell.told(x, 0, 0, "rise 1 10;house 3 3 0;");
        Check.is("29: WAY 0", x.possible(0, 0, 0), 1);
        Check.is("29: sun isn't told", x.possible(0, 0, 1), -1);
        Tell.told(x, 0, 0, "sun 1 10;house 3 3 0;");
        Check.is("29: RISE isn't told", x.possible(0, 0, 0), -1);
        Check.is("29: RISE isn't told", x.possible(0, 0, 1), -1);
        // steep: of DEGREE 0 TIMES are 90 minutes, so every third DEGREE has no HOUR
        Tell.told(x, 0, 0, "sun 0 0;rise 0 2;");
        Check.is("29: an HOUR by CLIMATE 0 alone", x.possible(0, 0, 1), 1);
        Check.missing("29: what 2", () -> x.possible(0, 0, 2));
        Check.missing("29: what -1", () -> x.possible(0, 0, -1));
        Check.missing("29: BOOK", () -> x.possible(6, 0, 0));
        Check.missing("29: WHEEL", () -> x.possible(0, 20, 0));
    }

    /** CLIMATE 0 is THE LEVEL one whatever its numbers are. */
    private static void unevenLevel() {
        WheelBook x = Tell.withHouse("climate 0 200 240 280 320 360 400 400 360 320 280 240 200;");
        // DEGREE 0: CLIMB 0, less 1,620,000: 4,860,000; 1800 * 2560 are ahead of SIGN 8: 252,000 by 320: 787 minutes in it
        Check.is("16: uneven", x.middle(0, 0), 8 * 1800 + 787);
        Check.is("18: uneven", x.houseOf(0, 2, 0, 10), 253);
        Tell.told(x, 0, 0, "rise 0 0;house 10 9 0;");
        Check.is("29: WAYS 0 and 1", x.possible(0, 0, 0), 3);
        Tell.told(x, 0, 0, "rise 0 1;house 10 9 1;");
        Check.is("29: WAY 1 alone", x.possible(0, 0, 0), 2);
        Tell.told(x, 0, 0, "rise 0 0;house 10 8 13;");
        Check.is("29: WAY 2 alone", x.possible(0, 0, 0), 4);
    }

    private static void lots() {
        WheelBook x = Tell.withHouse("hand 7 for 5;hand 1 for 3;");
        Tell.told(x, 0, 0, "sun 0 10;moon 1 0;rise 3 5;lot 3 25;");
        Check.is("20: by day", x.lot(0, 0, 0), 115);
        Check.is("20: COST 0", x.lot(0, 0, 1), 0);
        Tell.told(x, 0, 0, "sun 0 10;moon 1 0;rise 3 5;lot 1 25;");
        Check.is("20: COST 1, what was read is the ENTRY", x.lot(0, 0, 1), 1);
        Tell.told(x, 0, 0, "sun 0 10;moon 11 0;rise 0 5;lot 3 25;");
        // RISE less sun is 355: by night; 5 + 10 - 330 = -315: 45
        Check.is("20: by night", x.lot(0, 0, 0), 45);
        Check.is("20: COST 9", x.lot(0, 0, 1), 9);
        Tell.told(x, 0, 0, "sun 0 0;moon 1 0;rise 6 0;");
        Check.is("20: 180 is night", x.lot(0, 0, 0), 150);
        Check.is("20: LOT isn't told", x.lot(0, 0, 1), -1);
        Tell.told(x, 0, 0, "sun 0 0;moon 1 0;rise 5 29;");
        Check.is("20: 179 is day", x.lot(0, 0, 0), 209);
        Tell.told(x, 0, 0, "sun 5 5;moon 6 6;rise 5 5;");
        Check.is("20: 0 is day", x.lot(0, 0, 0), 186);
        Tell.told(x, 0, 0, "sun 5 5;moon 6 6;lot 1 1;");
        Check.is("20: no RISE", x.lot(0, 0, 0), -1);
        Check.is("20: no RISE", x.lot(0, 0, 1), -1);
        Tell.told(x, 0, 0, "sun 5 5;rise 6 6;lot 1 1;");
        Check.is("20: no moon", x.lot(0, 0, 0), -1);
        Tell.told(x, 0, 0, "moon 5 5;rise 6 6;lot 1 1;");
        Check.is("20: no sun", x.lot(0, 0, 1), -1);
        Check.missing("20: what 2", () -> x.lot(0, 0, 2));
        Check.missing("20: what -1", () -> x.lot(0, 0, -1));
        Check.missing("20: BOOK", () -> x.lot(6, 0, 0));
        Check.missing("20: WHEEL", () -> x.lot(0, 20, 0));
    }
}
