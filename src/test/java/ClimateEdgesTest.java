/** Each sentence on CLIMATES, HOURS, houses and THE LOT (parts 1 and 3, promises 14 to 20 and 29) that names a boundary. */
public final class ClimateEdgesTest {
    /** All that is steep comes in the last SIGN. */
    private static final String LATE = "climate 1 1 1 1 1 1 1 1 1 1 1 1 3589;";

    public static void main(String[] args) {
        climbs();
        placeOfClimb();
        risesRoundTheRing();
        middles();
        levelClimate();
        hours();
        hourRefused();
        housesBySign();
        housesByDegree();
        housesByMiddle();
        housesOfNoArc();
        houseRefused();
        agree();
        agreeRefused();
        ways();
        climates();
        possibleRefused();
        lotByDay();
        lotRound();
        lotRefused();
        refusedPlacesAndTimes();
        Check.end("ClimateEdgesTest");
    }

    private static WheelBook levelAnd(String climate) {
        return Tell.withHouse(Tell.LEVEL + climate);
    }

    private static void climbs() {
        Check.sentence("CLIMB of a PLACE by a CLIMATE: 1800 by the RISING numbers of all SIGNS ahead of its own, "
                + "and that of its own by how many minutes it is in it: below 6,480,000.");
        WheelBook x = levelAnd(LATE + "climate 2 3589 1 1 1 1 1 1 1 1 1 1 1;");
        Check.is("14: level, the first", x.climb(0, 0), 0);
        Check.is("14: level, the last", x.climb(0, 21599), 6479700);
        Check.is("14: late, the last of SIGN 0", x.climb(1, 1799), 1799);
        Check.is("14: late, the first of SIGN 1", x.climb(1, 1800), 1800);
        Check.is("14: late, the last of SIGN 10", x.climb(1, 19799), 19799);
        Check.is("14: late, the first of SIGN 11", x.climb(1, 19800), 19800);
        Check.is("14: late, the next", x.climb(1, 19801), 19800 + 3589);
        Check.is("14: late, the last", x.climb(1, 21599), 6480000 - 3589);
        Check.is("14: early, the last of SIGN 0", x.climb(2, 1799), 3589 * 1799);
        Check.is("14: early, the first of SIGN 1", x.climb(2, 1800), 3589 * 1800);
        Check.is("14: early, the greatest there is", x.climb(2, 21599), 6479999);
    }

    private static void placeOfClimb() {
        Check.sentence("The PLACE of a CLIMB: the greatest PLACE whose CLIMB is no more.");
        WheelBook x = levelAnd(LATE);
        // TIME 1 is a CLIMB of 18,000
        Check.is("15: CLIMB 18,000", x.rise(1, 0, 1), 18000);
        Check.is("15: CLIMB 19,799", x.rise(1, 1799, 1), 19799);
        Check.is("15: CLIMB 19,800, where SIGN 11 begins", x.rise(1, 1800, 1), 19800);
        Check.is("15: CLIMB 19,801, in its first minute", x.rise(1, 1801, 1), 19800);
        Check.is("15: CLIMB 23,388, in its first minute", x.rise(1, 5388, 1), 19800);
        Check.is("15: CLIMB 23,389, the next", x.rise(1, 5389, 1), 19801);
        Check.is("15: CLIMB 36,000", x.rise(1, 0, 2), 19800 + 16200 / 3589);
        Check.is("15: TIME 0 is the very PLACE", x.rise(1, 21599, 0), 21599);
        for (int sign = 0; sign < 12; sign++) {
            Check.is("15: TIME 0, the first of a SIGN", x.rise(1, 1800 * sign, 0), 1800 * sign);
            Check.is("15: TIME 0, the last of a SIGN", x.rise(1, 1800 * sign + 1799, 0), 1800 * sign + 1799);
        }
    }

    private static void risesRoundTheRing() {
        Check.sentence("the PLACE of the CLIMB of that, and 18,000 by the TIME (MOD 6,480,000)");
        WheelBook x = levelAnd(LATE);
        Check.is("15: CLIMB 6,479,700", x.rise(0, 59, 359), 21599);
        Check.is("15: CLIMB 6,480,000 is 0", x.rise(0, 60, 359), 0);
        Check.is("15: CLIMB 6,480,300 is 300", x.rise(0, 61, 359), 1);
        Check.is("15: the farthest", x.rise(0, 21599, 359), 21539);
        Check.is("15: late, 6,476,411 and 18,000", x.rise(1, 21599, 1), 14411);
        Check.is("15: late, TIME 359", x.rise(1, 0, 359), 21594);
        // 6,462,000 and 17,999: the last CLIMB there is
        Check.is("15: late, CLIMB 6,479,999", x.rise(1, 17999, 359), 21599);
        Check.is("15: late, CLIMB 6,480,000 is 0", x.rise(1, 18000, 359), 0);
    }

    private static void middles() {
        Check.sentence("MIDDLE of a PLACE by a CLIMATE: the PLACE by THE LEVEL CLIMATE of its CLIMB by that CLIMATE less 1,620,000 (MOD).");
        WheelBook x = levelAnd("climate 1 899 1 2691 1 1 1 1 1 1 1 1 1;");
        Check.is("16: level, CLIMB 1,619,700", x.middle(0, 5399), 21599);
        Check.is("16: level, CLIMB 1,620,000", x.middle(0, 5400), 0);
        Check.is("16: level, the first PLACE", x.middle(0, 0), 16200);
        Check.is("16: level, the last PLACE", x.middle(0, 21599), 16199);
        Check.is("16: CLIMB 1,619,999 less that is 6,479,999", x.middle(1, 3599), 21599);
        Check.is("16: CLIMB 1,620,000 less that is 0", x.middle(1, 3600), 0);
        // 2691 by the level 300
        Check.is("16: CLIMB 2691", x.middle(1, 3601), 8);
        Check.is("16: CLIMB 899, cut down", x.middle(1, 1), 16202);
        Check.is("16: CLIMB 6,479,999", x.middle(1, 21599), 16199);
    }

    private static void levelClimate() {
        Check.sentence("CLIMATE 0 is THE LEVEL one.");
        // what is called level is as uneven as it was told
        WheelBook x = Tell.withHouse("climate 0 3589 1 1 1 1 1 1 1 1 1 1 1;climate 1 300 300 300 300 300 300 300 300 300 300 300 300;");
        // CLIMB 300 * 5400 is 1,620,000
        Check.is("16: CLIMB 0", x.middle(1, 5400), 0);
        Check.is("16: CLIMB 300, in the first minute", x.middle(1, 5401), 0);
        // 12 by 300 is 3600
        Check.is("16: CLIMB 3300", x.middle(1, 5411), 0);
        Check.is("16: CLIMB 3600", x.middle(1, 5412), 1);
        Check.is("16: by itself: CLIMB 3589 less 1,620,000", x.middle(0, 1), (6480000 + 3589 - 1620000) / 3589);
    }

    // ---- HOURS

    private static void hours() {
        Check.sentence("An HOUR of a WHEEL: a CLIMATE and a TIME by which RISE, of the PLACE at which the sun's ENTRY begins, "
                + "is in the DEGREE that it tells as RISE; ordered by CLIMATE, then TIME.");
        // a TIME is 120 minutes by CLIMATE 1, 119 by CLIMATE 2, in SIGN 0
        WheelBook x = levelAnd("climate 1 150 450 300 300 300 300 300 300 300 300 300 300;"
                + "climate 2 151 449 300 300 300 300 300 300 300 300 300 300;");
        Tell.told(x, 0, 0, "sun 0 0;rise 0 1;");
        Check.is("17: not at PLACE 120", x.hour(0, 0, -1), 2);
        Check.is("17: level, at PLACE 60", x.hour(0, 0, 0), 1);
        Check.is("17: by CLIMATE 2, at PLACE 119", x.hour(0, 0, 1), 721);
        Tell.told(x, 0, 0, "sun 0 0;rise 0 2;");
        Check.is("17: at PLACE 120", x.hour(0, 0, -1), 2);
        Check.is("17: level", x.hour(0, 0, 0), 2);
        Check.is("17: by CLIMATE 1, at PLACE 120", x.hour(0, 0, 1), 361);
        Tell.told(x, 0, 0, "sun 11 29;rise 11 29;");
        Check.is("17: TIME 0, by all three", x.hour(0, 0, -1), 3);
        for (int climate = 0; climate < 3; climate++) {
            Check.is("17: TIME 0 by CLIMATE " + climate, x.hour(0, 0, climate), 360 * climate);
        }
        Tell.told(x, 0, 0, "sun 6 0;rise 5 29;");
        for (int climate = 0; climate < 3; climate++) {
            Check.is("17: TIME 359 by CLIMATE " + climate, x.hour(0, 0, climate), 360 * climate + 359);
        }
        Tell.told(x, 0, 0, "sun 0 0;rise 1 1;");
        // in SIGN 1 a TIME is 40 minutes: DEGREE 31 is PLACES 1860 to 1919, CLIMATE 1: 15 TIMES to 1800, then 1840, 1880, 1920
        Check.is("17: by CLIMATE 1", x.hour(0, 0, 1), 360 + 17);
        Tell.told(x, 0, 0, "sun 0 0;rise 1 3;");
        // 1960 is in DEGREE 32, 2000 in 33, 2040 in 34
        Check.is("17: by CLIMATE 1", x.hour(0, 0, 1), 360 + 20);
        Tell.told(x, 0, 0, "sun 0 0;rise 1 0;");
        Check.is("17: two TIMES of one CLIMATE", x.hour(0, 0, 1), 360 + 15);
        Check.is("17: two TIMES of one CLIMATE", x.hour(0, 0, 2), 360 + 16);
    }

    private static void hourRefused() {
        Check.sentence("How many HOURS a WHEEL has (i NONE), the i-th: 360 by the CLIMATE, and the TIME; "
                + "NONE (of i NONE): sun or RISE isn't told. NoSuchElementException: also there is none.");
        WheelBook x = new WheelBook();
        Check.is("17: neither is told", x.hour(0, 0, -1), -1);
        Check.missing("17: neither is told", () -> x.hour(0, 0, 0));
        Tell.told(x, 0, 0, "sun 0 0;moon 1 1;lot 1 1;");
        Check.is("17: no RISE", x.hour(0, 0, -1), -1);
        Tell.told(x, 0, 0, "rise 0 0;moon 1 1;");
        Check.is("17: no sun", x.hour(0, 0, -1), -1);
        Check.missing("17: no sun", () -> x.hour(0, 0, 0));
        Tell.told(x, 0, 0, "rise 0 0;sun 0 0;");
        Check.is("17: no CLIMATE, so no HOUR", x.hour(0, 0, -1), 0);
        Check.missing("17: no HOUR", () -> x.hour(0, 0, 0));
        Tell.house(x, Tell.LEVEL);
        Check.is("17: one", x.hour(0, 0, -1), 1);
        Check.is("17: the first", x.hour(0, 0, 0), 0);
        Check.missing("17: no second", () -> x.hour(0, 0, 1));
        Check.missing("17: i is -2", () -> x.hour(0, 0, -2));
        Check.missing("17: least", () -> x.hour(0, 0, Integer.MIN_VALUE));
        Check.missing("17: greatest", () -> x.hour(0, 0, Integer.MAX_VALUE));
        Check.missing("17: BOOK 6", () -> x.hour(6, 0, -1));
        Check.missing("17: WHEEL 20", () -> x.hour(0, 20, -1));
    }

    // ---- houses

    private static void housesBySign() {
        Check.sentence("0 k: the first DEGREE of the SIGN that is k - 1 behind that of r");
        WheelBook x = new WheelBook();
        int[] degrees = {0, 29, 30, 59, 329, 330, 359};
        for (int degree : degrees) {
            for (int house = 1; house <= 12; house++) {
                int due = (degree - degree % 30 + 30 * (house - 1)) % 360;
                Check.is("18: WAY 0, house " + house + " of " + degree, x.houseOf(degree, 0, 0, house), due);
            }
        }
    }

    private static void housesByDegree() {
        Check.sentence("1: 30 (k - 1) behind r");
        WheelBook x = new WheelBook();
        Check.is("18: house 1 of 0", x.houseOf(0, 1, 0, 1), 0);
        Check.is("18: house 12 of 0", x.houseOf(0, 1, 0, 12), 330);
        Check.is("18: house 2 of 329", x.houseOf(329, 1, 0, 2), 359);
        Check.is("18: house 2 of 330", x.houseOf(330, 1, 0, 2), 0);
        Check.is("18: house 12 of 29", x.houseOf(29, 1, 0, 12), 359);
        Check.is("18: house 12 of 30", x.houseOf(30, 1, 0, 12), 0);
        Check.is("18: house 1 of 359", x.houseOf(359, 1, 0, 1), 359);
        Check.is("18: house 12 of 359", x.houseOf(359, 1, 0, 12), 329);
    }

    private static void allHouses(WheelBook x, int degree, int climate, int... due) {
        for (int house = 1; house <= 12; house++) {
            Check.is("18: WAY 2, house " + house + " of " + degree, x.houseOf(degree, 2, climate, house), due[house - 1]);
        }
    }

    private static void housesByMiddle() {
        Check.sentence("1 r, 10 the MIDDLE's DEGREE m, 7 and 4 180 on from these; of the arc from 10 to 1 (r less m, MOD 360) "
                + "houses 11, 12 are a third, two thirds on (cut down), of that from 1 to 4 houses 2, 3 likewise; "
                + "5, 6, 8, 9 180 on from 11, 12, 2, 3.");
        WheelBook x = levelAnd("climate 1 1210 2380 1 1 1 1 1 1 1 1 1 1;climate 2 310 290 300 300 300 300 300 300 300 300 300 300;");
        allHouses(x, 0, 0, 0, 30, 60, 90, 120, 150, 180, 210, 240, 270, 300, 330);
        allHouses(x, 359, 0, 359, 29, 59, 89, 119, 149, 179, 209, 239, 269, 299, 329);
        allHouses(x, 90, 0, 90, 120, 150, 180, 210, 240, 270, 300, 330, 0, 30, 60);
        allHouses(x, 89, 0, 89, 119, 149, 179, 209, 239, 269, 299, 329, 359, 29, 59);
        // DEGREE 30: CLIMB 2,178,000; less 1,620,000 by 300: PLACE 1860, DEGREE 31: the arc to 1 is 359, that to 4 (211) 181
        allHouses(x, 30, 1, 30, 90, 150, 211, 330, 90, 210, 270, 330, 31, 150, 270);
        // DEGREE 30: CLIMB 558,000: 18,060, DEGREE 301: 89, thirds 29, 59; to 121: 91, thirds 30, 60
        allHouses(x, 30, 2, 30, 60, 90, 121, 150, 180, 210, 240, 270, 301, 330, 0);
        // DEGREE 10: CLIMB 186,000: 16,820, DEGREE 280: 90; DEGREE 15: 279,000: 17,130, 285: 90; DEGREE 16: 17,192, 286: 90
        allHouses(x, 16, 2, 16, 46, 76, 106, 136, 166, 196, 226, 256, 286, 316, 346);
    }

    private static void housesOfNoArc() {
        Check.sentence("the arc from 10 to 1 (r less m, MOD 360)");
        // DEGREE 30: CLIMB 2,160,000; less 1,620,000 by 300: PLACE 1800, DEGREE 30 itself: no arc; that to 4 is 180
        WheelBook x = levelAnd("climate 1 1200 2390 1 1 1 1 1 1 1 1 1 1;climate 2 1199 2391 1 1 1 1 1 1 1 1 1 1;"
                + "climate 3 120 2 1 1 3468 1 1 1 1 1 1 2;");
        allHouses(x, 30, 1, 30, 90, 150, 210, 210, 210, 210, 270, 330, 30, 30, 30);
        // DEGREE 30: CLIMB 2,158,200: PLACE 1794, DEGREE 29: an arc of 1, thirds 0, 0; that to 4 (209) is 179: 59, 119
        allHouses(x, 30, 2, 30, 89, 149, 209, 209, 209, 210, 269, 329, 29, 29, 29);
        // DEGREE 120: CLIMB 1800 * 124 = 223,200; less 1,620,000: 5,083,200 by 300: 16,944, DEGREE 282: 198; to 102: 342
        allHouses(x, 120, 3, 120, 234, 348, 102, 168, 234, 300, 54, 168, 282, 348, 54);
    }

    private static void houseRefused() {
        Check.sentence("A house (1 to 12) of a DEGREE that rises, by a WAY (0 to 2; CLIMATE any of 0, 1). "
                + "NoSuchElementException: no such DEGREE, WAY, house, of WAY 2 no such CLIMATE.");
        WheelBook none = new WheelBook();
        int[] anyClimate = {Integer.MIN_VALUE, -1, 0, 6, 7, Integer.MAX_VALUE};
        for (int climate : anyClimate) {
            Check.is("18: WAY 0, CLIMATE " + climate, none.houseOf(359, 0, climate, 12), 300);
            Check.is("18: WAY 1, CLIMATE " + climate, none.houseOf(359, 1, climate, 12), 329);
            Check.missing("18: WAY 2, CLIMATE " + climate, () -> none.houseOf(359, 2, climate, 12));
        }
        WheelBook x = levelAnd(Tell.STEEP);
        Check.is("18: CLIMATE 1", x.houseOf(0, 2, 1, 1), 0);
        Check.missing("18: CLIMATE 2", () -> x.houseOf(0, 2, 2, 1));
        Check.missing("18: CLIMATE -1", () -> x.houseOf(0, 2, -1, 1));
        for (int way = 0; way <= 2; way++) {
            int w = way;
            Check.missing("18: DEGREE 360, WAY " + w, () -> x.houseOf(360, w, 0, 1));
            Check.missing("18: DEGREE -1, WAY " + w, () -> x.houseOf(-1, w, 0, 1));
            Check.missing("18: house 0, WAY " + w, () -> x.houseOf(0, w, 0, 0));
            Check.missing("18: house 13, WAY " + w, () -> x.houseOf(0, w, 0, 13));
        }
        Check.missing("18: WAY 3", () -> x.houseOf(0, 3, 0, 1));
        Check.missing("18: WAY -1", () -> x.houseOf(0, -1, 0, 1));
    }

    private static void agree() {
        Check.sentence("AGREE: how many houses that a WHEEL tells are those DEGREES by its RISE.");
        WheelBook x = levelAnd("");
        StringBuilder all = new StringBuilder("rise 0 5;");
        for (int house = 1; house <= 12; house++) {
            all.append("house ").append(house).append(' ').append(house - 1).append(" 5;");
        }
        Tell.told(x, 0, 0, all.toString());
        Check.is("19: all twelve by WAY 1", x.agree(0, 0, 1, 0), 12);
        Check.is("19: all twelve by WAY 2", x.agree(0, 0, 2, 0), 12);
        Check.is("19: none by WAY 0", x.agree(0, 0, 0, 0), 0);
        Tell.told(x, 0, 0, "rise 0 5;sun 3 0;lot 11 5;date 11 5;");
        for (int way = 0; way <= 2; way++) {
            Check.is("19: no house told, WAY " + way, x.agree(0, 0, way, 0), 0);
        }
        Check.is("29: nor one that would not agree", x.possible(0, 0, 0), 7);
        Tell.told(x, 0, 0, "rise 0 5;lot 7 7;house 1 0 5;house 12 11 5;date 7 7;");
        Check.is("19: LOT and DATE are no houses", x.agree(0, 0, 1, 0), 2);
        Tell.told(x, 0, 0, "rise 0 5;house 1 0 0;house 12 11 0;house 2 1 1;");
        Check.is("19: two of three", x.agree(0, 0, 0, 0), 2);
    }

    private static void agreeRefused() {
        Check.sentence("AGREE. NONE: RISE isn't told. NoSuchElementException: also likewise.");
        WheelBook x = levelAnd("");
        Tell.told(x, 0, 0, "house 1 0 0;sun 0 0;");
        Check.is("19: no RISE, WAY 0", x.agree(0, 0, 0, 9), -1);
        Check.is("19: no RISE, WAY 1", x.agree(0, 0, 1, -9), -1);
        Check.is("19: no RISE, WAY 2", x.agree(0, 0, 2, 0), -1);
        Check.missing("19: CLIMATE 1", () -> x.agree(0, 0, 2, 1));
        Check.missing("19: CLIMATE -1", () -> x.agree(0, 0, 2, -1));
        Check.missing("19: WAY 3", () -> x.agree(0, 0, 3, 0));
        Check.missing("19: WAY -1", () -> x.agree(0, 0, -1, 0));
        Check.missing("19: BOOK 6", () -> x.agree(6, 0, 0, 0));
        Check.missing("19: WHEEL 20", () -> x.agree(0, 20, 0, 0));
        Tell.told(x, 0, 0, "house 1 0 0;rise 0 0;");
        Check.is("19: RISE is told", x.agree(0, 0, 0, Integer.MAX_VALUE), 1);
        Check.missing("19: CLIMATE 1", () -> x.agree(0, 0, 2, 1));
    }

    private static void ways() {
        Check.sentence("WAYS that can be: those by which all houses that it tells AGREE (2: all by one CLIMATE)");
        WheelBook x = levelAnd("climate 1 1200 2390 1 1 1 1 1 1 1 1 1 1;");
        String[] wheels = {"rise 1 0;", "rise 1 0;house 1 1 0;", "rise 1 5;house 1 1 0;", "rise 1 5;house 1 1 5;",
            "rise 1 0;house 10 1 0;", "rise 1 0;house 10 10 0;house 11 11 0;", "rise 1 0;house 10 1 0;house 11 11 0;",
            "rise 1 0;house 10 1 0;house 11 1 0;", "rise 1 0;house 10 1 0;house 2 2 0;", "rise 1 0;house 2 5 5;"};
        int[] due = {7, 7, 1, 6, 4, 7, 0, 4, 0, 0};
        for (int i = 0; i < wheels.length; i++) {
            Tell.told(x, 0, 0, wheels[i]);
            Check.is("29: WAYS of " + wheels[i], x.possible(0, 0, 0), due[i]);
        }
        WheelBook uneven = Tell.withHouse("climate 0 200 240 280 320 360 400 400 360 320 280 240 200;");
        String[] unevenWheels = {"rise 0 1;house 10 9 1;", "rise 0 1;house 10 9 0;", "rise 0 0;house 10 8 13;", "rise 0 0;house 10 9 0;"};
        int[] unevenDue = {2, 1, 4, 3};
        for (int i = 0; i < unevenWheels.length; i++) {
            Tell.told(uneven, 0, 0, unevenWheels[i]);
            Check.is("29: WAYS by an uneven CLIMATE 0 of " + unevenWheels[i], uneven.possible(0, 0, 0), unevenDue[i]);
        }
        WheelBook none = Tell.withWheel("rise 1 0;");
        Check.is("29: without a CLIMATE there is none by which all agree", none.possible(0, 0, 0), 3);
    }

    private static void climates() {
        Check.sentence("CLIMATES that can be: by which it has an HOUR, and all houses it tells AGREE by WAY 2.");
        StringBuilder seven = new StringBuilder(Tell.LEVEL);
        for (int climate = 1; climate < 7; climate++) {
            seven.append("climate ").append(climate).append(climate == 3 ? " 200 400" : " 300 300");
            seven.append(" 300 300 300 300 300 300 300 300 300 300;");
        }
        WheelBook x = Tell.withHouse(seven.toString());
        Tell.told(x, 0, 0, "sun 0 0;rise 0 0;");
        Check.is("29: all seven", x.possible(0, 0, 1), 127);
        Tell.told(x, 0, 0, "sun 0 0;rise 0 2;");
        Check.is("29: no HOUR by CLIMATE 3", x.possible(0, 0, 1), 127 - 8);
        // by CLIMATE 3 DEGREE 10 has CLIMB 120,000: PLACE 16,600, DEGREE 276
        Tell.told(x, 0, 0, "sun 0 10;rise 0 10;house 10 9 6;");
        Check.is("29: by CLIMATE 3 alone", x.possible(0, 0, 1), 8);
        Tell.told(x, 0, 0, "sun 0 10;rise 0 10;house 10 9 10;");
        Check.is("29: by all but CLIMATE 3", x.possible(0, 0, 1), 127 - 8);
        // from DEGREE 8 a TIME goes by 90 minutes, past DEGREE 10
        Tell.told(x, 0, 0, "sun 0 8;rise 0 10;house 10 9 6;");
        Check.is("29: its houses agree, but it has no HOUR", x.possible(0, 0, 1), 0);
        Check.is("29: the WAY can be yet", x.possible(0, 0, 0), 4);
    }

    private static void possibleRefused() {
        Check.sentence("WAYS (what 0), CLIMATES (1) that can be, as bits. NONE: RISE isn't told (of 1: or sun). "
                + "NoSuchElementException: also another what.");
        WheelBook x = levelAnd("");
        Check.is("29: nothing told", x.possible(5, 19, 0), -1);
        Check.is("29: nothing told", x.possible(5, 19, 1), -1);
        Tell.told(x, 0, 0, "sun 0 0;house 1 0 0;");
        Check.is("29: no RISE", x.possible(0, 0, 0), -1);
        Check.is("29: no RISE", x.possible(0, 0, 1), -1);
        Tell.told(x, 0, 0, "rise 0 0;house 1 0 0;");
        Check.is("29: no sun", x.possible(0, 0, 0), 7);
        Check.is("29: no sun", x.possible(0, 0, 1), -1);
        Tell.told(x, 0, 0, "rise 0 0;sun 0 0;");
        Check.is("29: both", x.possible(0, 0, 1), 1);
        Check.missing("29: what 2", () -> x.possible(0, 0, 2));
        Check.missing("29: what -1", () -> x.possible(0, 0, -1));
        Check.missing("29: BOOK 6", () -> x.possible(6, 0, 0));
        Check.missing("29: WHEEL 20", () -> x.possible(0, 20, 1));
    }

    // ---- THE LOT

    private static int lotOf(String text) {
        return Tell.withWheel(text).lot(0, 0, 0);
    }

    private static void lotByDay() {
        Check.sentence("RISE and moon less sun, if the sun is up (RISE less sun, MOD 360, below 180), else RISE and sun less moon.");
        Check.is("20: 0", lotOf("sun 1 0;rise 1 0;moon 2 0;"), 60);
        Check.is("20: 179", lotOf("sun 0 0;rise 5 29;moon 1 0;"), 209);
        Check.is("20: 180", lotOf("sun 0 0;rise 6 0;moon 1 0;"), 150);
        Check.is("20: 359", lotOf("sun 0 1;rise 0 0;moon 0 11;"), 350);
        Check.is("20: 179, round the ring", lotOf("sun 11 0;rise 4 29;moon 11 10;"), 159);
        Check.is("20: 180, round the ring", lotOf("sun 11 0;rise 5 0;moon 11 10;"), 140);
    }

    private static void lotRound() {
        Check.sentence("THE LOT of a WHEEL, in DEGREES MOD 360");
        Check.is("20: by day 359", lotOf("sun 0 0;rise 0 0;moon 11 29;"), 359);
        Check.is("20: by day 360", lotOf("sun 0 0;rise 0 1;moon 11 29;"), 0);
        Check.is("20: by day, the greatest: 538", lotOf("sun 0 0;rise 5 29;moon 11 29;"), 178);
        Check.is("20: by day below 0: 0 + 0 - 181", lotOf("sun 6 1;rise 0 0;moon 0 0;"), 179);
        Check.is("20: by night 0", lotOf("sun 0 1;rise 0 0;moon 0 1;"), 0);
        Check.is("20: by night -1", lotOf("sun 0 1;rise 0 0;moon 0 2;"), 359);
        Check.is("20: by night, the least: 0 + 1 - 359", lotOf("sun 0 1;rise 0 0;moon 11 29;"), 2);
        Check.is("20: by night, the greatest: 359 + 179", lotOf("sun 5 29;rise 11 29;moon 0 0;"), 178);
    }

    private static void lotRefused() {
        Check.sentence("THE LOT (what 0); what 1: its COST beside the ENTRY. NONE: one of sun, moon, RISE (of 1: LOT) isn't told. "
                + "NoSuchElementException: also another what.");
        WheelBook x = Tell.withHouse("hand 5 for 0;hand 7 for 2;");
        String[] wheels = {"moon 2 0;rise 1 0;lot 2 0;", "sun 1 0;rise 1 0;lot 2 0;", "sun 1 0;moon 2 0;lot 2 0;", "sun 1 0;moon 2 0;rise 1 0;",
            "sun 1 0;moon 2 0;rise 1 0;lot 2 0;", "sun 1 0;moon 2 0;rise 1 0;lot 2 5;", "sun 1 0;moon 2 0;rise 1 0;lot 7 0;",
            "sun 1 0;moon 2 0;rise 1 0;lot 7 5;", "sun 1 0;moon 2 5;rise 1 0;lot 2 0;"};
        int[] lots = {-1, -1, -1, 60, 60, 60, 60, 60, 65};
        int[] costs = {-1, -1, -1, -1, 0, 1, 1, 9, 9};
        for (int i = 0; i < wheels.length; i++) {
            Tell.told(x, 0, 0, wheels[i]);
            Check.is("20: THE LOT of " + wheels[i], x.lot(0, 0, 0), lots[i]);
            Check.is("20: its COST of " + wheels[i], x.lot(0, 0, 1), costs[i]);
        }
        Check.missing("20: what 2", () -> x.lot(0, 0, 2));
        Check.missing("20: what -1", () -> x.lot(0, 0, -1));
        Check.missing("20: what 2 of nothing told", () -> x.lot(5, 19, 2));
        Check.missing("20: BOOK 6", () -> x.lot(6, 0, 0));
        Check.missing("20: WHEEL 20", () -> x.lot(0, 20, 0));
    }

    private static void refusedPlacesAndTimes() {
        Check.sentence("NoSuchElementException: no such CLIMATE (as everywhere), PLACE.");
        WheelBook x = new WheelBook();
        for (int climate = 0; climate <= 7; climate++) {
            int c = climate;
            Check.missing("14: CLIMATE " + c + " of " + c, () -> x.climb(c, 0));
            Check.missing("15: CLIMATE " + c + " of " + c, () -> x.rise(c, 0, 0));
            Check.missing("16: CLIMATE " + c + " of " + c, () -> x.middle(c, 0));
            if (climate < 7) {
                Tell.house(x, "climate " + climate + Tell.LEVEL.substring(9));
                Check.is("14: CLIMATE " + c, x.climb(c, 21599), 6479700);
                Check.is("15: CLIMATE " + c, x.rise(c, 21599, 359), 21539);
                Check.is("16: CLIMATE " + c, x.middle(c, 21599), 16199);
            }
        }
        Check.missing("14: CLIMATE -1", () -> x.climb(-1, 0));
        Check.missing("15: CLIMATE -1", () -> x.rise(-1, 0, 0));
        Check.missing("16: CLIMATE -1", () -> x.middle(-1, 0));
        Check.missing("14: PLACE 21600", () -> x.climb(6, 21600));
        Check.missing("14: PLACE -1", () -> x.climb(6, -1));
        Check.sentence("MIDDLE. NoSuchElementException: likewise.");
        Check.missing("16: PLACE 21600", () -> x.middle(6, 21600));
        Check.missing("16: PLACE -1", () -> x.middle(6, -1));
        Check.sentence("RISE by a CLIMATE, of a PLACE of the sun, at a TIME. NoSuchElementException: also no such PLACE, TIME.");
        Check.missing("15: PLACE 21600", () -> x.rise(6, 21600, 0));
        Check.missing("15: PLACE -1", () -> x.rise(6, -1, 0));
        Check.sentence("TIMES are DEGREES of turning, 0 to 359, since the sun rose.");
        Check.is("15: TIME 0", x.rise(6, 0, 0), 0);
        Check.is("15: TIME 359", x.rise(6, 0, 359), 21540);
        Check.missing("15: TIME 360", () -> x.rise(6, 0, 360));
        Check.missing("15: TIME -1", () -> x.rise(6, 0, -1));
    }
}
