/** Promises 1 to 6 and 8: a new object, the tape, HOUSES, WHEELS and their FAULTS. */
public final class TextTest {

    public static void main(String[] args) {
        newObject();
        tape();
        tokens();
        setLines();
        climateLines();
        handLines();
        faultyHouseChangesNothing();
        laterLinesCount();
        wheels();
        wheelFaults();
        refusedCallsChangeNothing();
        counts();
        Check.end("TextTest");
    }

    private static void newObject() {
        WheelBook x = new WheelBook();
        for (int what = 0; what <= 5; what++) {
            Check.is("1: count of a new object", x.count(what), 0);
        }
        Check.is("1: NONE", WheelBook.NONE, -1);
        Check.is("1: fault", x.fault(), -1);
        Check.is("1: tree", x.tree(), -1);
        Check.is("1: image", x.image(), false);
        Check.is("1: restore", x.restore(), false);
        for (int entry = 0; entry < 22; entry++) {
            Check.is("1: entry", x.entry(5, 19, entry), -1);
        }
        for (int set = 0; set < 4; set++) {
            for (int wanderer = 0; wanderer < 7; wanderer++) {
                Check.is("1: place", x.place(set, wanderer, 1000000), 0);
            }
        }
        Check.missing("1: day", () -> x.day(-1));
        Check.missing("1: held", () -> x.held(0));
        Check.missing("1: whence", () -> x.whence(0));
    }

    private static void tape() {
        WheelBook x = new WheelBook();
        for (int i = 1; i <= 30; i++) {
            Check.is("2: feed", x.feed(0x20202020, 0x20202020, 0x20202020, 0x20202020, 0x20202020), 20 * i);
        }
        Check.is("2: feed beyond 600", x.feed(0, 0, 0, 0, 0), -1);
        Check.is("2: none came", x.count(4), 600);
        Check.is("2: 600 blanks are a HOUSE", x.house(600), 0);
        Check.is("2: the tape is empty then", x.count(4), 0);
        // "sun " "2 3;" with the highest byte of each number first
        Check.is("2: feed", x.feed(0x73756e20, 0x3220333b, 0x20202020, 0x20202020, 0xffffffff), 20);
        Check.is("2: the first 8 bytes alone count", x.wheel(0, 0, 8), 0);
        Check.is("2: entry", x.entry(0, 0, 0), 63);
        Check.is("2: empty", x.count(4), 0);
        Check.is("3: an empty HOUSE", x.house(0), 0);
        Check.illegal("3: not so many", () -> x.house(1));
        Check.illegal("3: below 0", () -> x.house(-1));
        Check.illegal("3: far below 0", () -> x.house(Integer.MIN_VALUE));
        Check.illegal("3: far too many", () -> x.house(Integer.MAX_VALUE));
    }

    private static void tokens() {
        Tell.houseFault("", 0, -1);
        Tell.houseFault("  \n ", 0, -1);
        Tell.houseFault("hand1for2;hand 3\nfor\n\n4 ;", 0, -1);
        Tell.houseFault("hand 0000001 for 2;", 0, -1);
        Tell.houseFault("hand 00000001 for 2;", 2, 5);
        Tell.houseFault("hand 12345678901234567890 for 2;", 2, 5);
        Tell.houseFault("12345678;", 1, 0);
        Tell.houseFault("hand 1 12345678 2;", 1, 7);
        Tell.houseFault("hand 1 for for;", 1, 11);
        Tell.houseFault(";", 1, 0);
        Tell.houseFault("Hand 1 for 2;", 1, 0);
        Tell.houseFault("hand 1 for 2", 1, 12);
        Tell.houseFault("hand 1 for 2   ", 1, 15);
        Tell.houseFault("hand 1 for", 1, 10);
        Tell.houseFault("hand 1 for -2;", 1, 11);
        Tell.houseFault("hand\t1 for 2;", 1, 4);
        Tell.houseFault("hand 1\u00e9for 2;", 1, 6);
        Tell.houseFault("hands 1 for 2;", 1, 0);
        Tell.houseFault("han 1 for 2;", 1, 0);
        Tell.houseFault("land 1 for 2;", 1, 0);
        Tell.houseFault("handz 1 for 2;", 1, 0);
        Tell.houseFault("hand 1 forz 2;", 1, 7);
        Tell.houseFault("hand 1 for 2 z", 1, 13);
        Tell.houseFault("azz", 1, 0);
        Tell.houseFault("hand 1 for 2;;", 1, 13);
        Tell.houseFault("hand 1 for 2; hand 3 for x;", 1, 25);
        Tell.houseFault("hand 30 for x;", 2, 5);
        Tell.houseFault("hand 1 for 2\u0000;", 1, 12);
    }

    private static void setLines() {
        Tell.houseFault("set 3 saturn at 21599 goes 2000000 swing 10800 in 1000000;", 0, -1);
        Tell.houseFault("set 0 sun at 0 goes 0 swing 0 in 2;", 0, -1);
        Tell.houseFault("set 4 sun at 0 goes 0;", 2, 4);
        Tell.houseFault("set sun at 0 goes 0;", 1, 4);
        Tell.houseFault("set 0 lot at 0 goes 0;", 1, 6);
        Tell.houseFault("set 0 rise at 0 goes 0;", 1, 6);
        Tell.houseFault("set 0 7 at 0 goes 0;", 1, 6);
        Tell.houseFault("set 0 sun at 21600 goes 0;", 2, 13);
        Tell.houseFault("set 0 sun goes 0;", 1, 10);
        Tell.houseFault("set 0 sun at 0 goes 2000001;", 2, 20);
        Tell.houseFault("set 0 sun at 0 swing 0 in 2;", 1, 15);
        Tell.houseFault("set 0 sun at 0 goes 0 swing 10801 in 2;", 2, 28);
        Tell.houseFault("set 0 sun at 0 goes 0 swing 1 in 1;", 2, 33);
        Tell.houseFault("set 0 sun at 0 goes 0 swing 1 in 1000001;", 2, 33);
        Tell.houseFault("set 0 sun at 0 goes 0 swing 1;", 1, 29);
        Tell.houseFault("set 0 sun at 0 goes 0 in 2;", 1, 22);
        Tell.houseFault("set 0 sun at 0 goes 0 swing 1 in 2 swing 1 in 2;", 1, 35);
        Tell.houseFault("set 0 sun at 0 goes 0 set 0 sun at 0 goes 0;", 1, 22);
    }

    private static void climateLines() {
        Tell.houseFault(Tell.LEVEL + Tell.STEEP, 0, -1);
        Tell.houseFault("climate 1 300;", 2, 8);
        Tell.houseFault("climate x 300;", 1, 8);
        Tell.houseFault("climate 0 300 0 300 300 300 300 300 300 300 300 300 600;", 2, 14);
        Tell.houseFault("climate 0 1 1 1 1 1 1 1 1 1 1 1 3589;", 0, -1);
        Tell.houseFault("climate 0 1 1 1 1 1 1 1 1 1 1 1 3588;", 2, 32);
        Tell.houseFault("climate 0 1 1 1 1 1 1 1 1 1 1 3590 0;", 2, 35);
        Tell.houseFault("climate 0 9999999 1 1 1 1 1 1 1 1 1 1 1;", 2, 38);
        Tell.houseFault("climate 0 9999999 1 1 1 1 1 1 1 1 1 1 x;", 1, 38);
        Tell.houseFault("climate 0 10000000 1 1 1 1 1 1 1 1 1 1 1;", 2, 10);
        Tell.houseFault("climate 0 1 1 1 1 1 1 1 1 1 1 1;", 1, 31);
        Tell.houseFault("climate 0 300 300 300 300 300 300 300 300 300 300 300 300 0;", 1, 58);
        WheelBook x = new WheelBook();
        for (int climate = 0; climate < 7; climate++) {
            Check.is("3: climate " + climate, Tell.house(x, "climate " + climate + Tell.LEVEL.substring(9)), 0);
        }
        Check.is("6: CLIMATES", x.count(0), 7);
        Check.is("3: the 8th climate", Tell.house(x, "hand 1 for 2;climate 7 x"), 2);
        Check.is("5: at its first TOKEN", x.fault(), 13);
        Check.is("3: all stays", x.count(1), 0);
        Check.is("3: a fault ahead of it comes first", Tell.house(x, "x climate"), 1);
        Check.is("5: fault", x.fault(), 0);
    }

    private static void handLines() {
        Tell.houseFault("hand 29 for 29;", 0, -1);
        Tell.houseFault("hand 1 for 30;", 2, 11);
        Tell.houseFault("hand 1 fur 3;", 1, 7);
        WheelBook x = new WheelBook();
        StringBuilder thirty = new StringBuilder();
        for (int i = 0; i < 30; i++) {
            thirty.append("hand ").append(i).append(" for 1;");
        }
        Check.is("3: the 31st hand in one text", Tell.house(x, thirty + "hand 1 for 2;"), 2);
        Check.is("5: at its first TOKEN", x.fault(), thirty.length());
        Check.is("3: none of them came", x.count(1), 0);
        Check.is("3: thirty", Tell.house(x, thirty.toString()), 0);
        Check.is("6: HANDS", x.count(1), 30);
        Check.is("3: the 31st hand", Tell.house(x, "hand"), 2);
        Check.is("5: fault", x.fault(), 0);
        WheelBook twice = Tell.withHouse("hand 1 for 2;hand 1 for 2;");
        Check.is("6: a HAND told twice counts twice", twice.count(1), 2);
    }

    private static void faultyHouseChangesNothing() {
        WheelBook x = Tell.withHouse("set 0 sun at 60 goes 1000;hand 3 for 4;" + Tell.LEVEL);
        int fault = Tell.house(x, "set 0 sun at 120 goes 5 swing 7 in 9;hand 5 for 6;" + Tell.STEEP + "hand 31 for 1;");
        Check.is("3: FAULT", fault, 2);
        Check.is("3: place stays", x.place(0, 0, 0), 60);
        Check.is("3: goes stays", x.place(0, 0, 7), 67);
        Check.is("3: HANDS stay", x.count(1), 1);
        Check.is("3: CLIMATES stay", x.count(0), 1);
        Tell.told(x, 0, 0, "sun 0 5;");
        Check.is("3: no new HAND is used", x.cost(0, 0, 0, 300), 9);
        Check.is("3: the next climate is 1 still", Tell.house(x, Tell.STEEP), 0);
        Check.is("3: climb", x.climb(1, 1800), 360000);
    }

    private static void laterLinesCount() {
        WheelBook x = Tell.withHouse("set 0 moon at 5 goes 0 swing 100 in 10;set 0 moon at 7 goes 0;");
        Check.is("3: the last LINE counts, without a swing", x.place(0, 1, 0), 7);
        Tell.house(x, "set 0 moon at 9 goes 1000;");
        Check.is("3: of another HOUSE too", x.place(0, 1, 10), 19);
        Check.is("3: other WANDERERS stay", x.place(0, 0, 10), 0);
        Check.is("3: other SETS stay", x.place(1, 1, 10), 0);
    }

    private static void wheels() {
        WheelBook x = new WheelBook();
        String all = "sun 0 0;moon 0 29;mercury 11 0;venus 11 29;mars 1 2;jupiter 2 3;saturn 3 4;rise 4 5;lot 5 6;";
        String houses = "house 1 0 1;house 2 0 2;house 3 0 3;house 12 11 12;house 11 10 11;date 12 4;";
        Tell.told(x, 5, 19, all + houses);
        int[] due = {0, 29, 330, 359, 32, 63, 94, 125, 156, 1, 2, 3, -1, -1, -1, -1, -1, -1, -1, 311, 342, 364};
        for (int entry = 0; entry < 22; entry++) {
            Check.is("8: entry " + entry, x.entry(5, 19, entry), due[entry]);
        }
        Check.is("8: another WHEEL stays", x.entry(5, 18, 0), -1);
        Check.is("8: another BOOK's stays", x.entry(4, 19, 0), -1);
        Tell.told(x, 5, 19, "date 0 0;");
        Check.is("4: in place of what that was", x.entry(5, 19, 0), -1);
        Check.is("8: DATE", x.entry(5, 19, 21), 0);
        Tell.told(x, 5, 19, "");
        Check.is("4: an empty WHEEL tells nothing", x.entry(5, 19, 21), -1);
        Tell.told(x, 5, 19, "date 11 29;");
        Check.is("8: DATE", x.entry(5, 19, 21), 359);
        Check.missing("8: ENTRY 22", () -> x.entry(0, 0, 22));
        Check.missing("8: ENTRY -1", () -> x.entry(0, 0, -1));
        Check.missing("8: BOOK 6", () -> x.entry(6, 0, 0));
        Check.missing("8: BOOK -1", () -> x.entry(-1, 0, 0));
        Check.missing("8: WHEEL 20", () -> x.entry(0, 20, 0));
        Check.missing("8: WHEEL -1", () -> x.entry(0, -1, 0));
    }

    private static void wheelFaults() {
        Tell.wheelFault("sun 12 0;", 2, 4);
        Tell.wheelFault("sun 0 30;", 2, 6);
        Tell.wheelFault("sun 0;", 1, 5);
        Tell.wheelFault("sun 0 0 0;", 1, 8);
        Tell.wheelFault("sun 0 0", 1, 7);
        Tell.wheelFault("set 0 0;", 1, 0);
        Tell.wheelFault("lots 0 0;", 1, 0);
        Tell.wheelFault("house 0 0 0;", 2, 6);
        Tell.wheelFault("house 13 0 0;", 2, 6);
        Tell.wheelFault("house 12345678 0 0;", 2, 6);
        Tell.wheelFault("house sun 0 0;", 1, 6);
        Tell.wheelFault("house", 1, 5);
        Tell.wheelFault("house 1 12 0;", 2, 8);
        Tell.wheelFault("house 1 1 1;house 2 1 1;house 1", 3, 30);
        Tell.wheelFault("house 1 1 1;house 13", 2, 18);
        Tell.wheelFault("sun 0 0;moon 0 0;sun", 3, 17);
        Tell.wheelFault("rise 0 0;rise x", 3, 9);
        Tell.wheelFault("lot 0 0; lot 0 0;", 3, 9);
        Tell.wheelFault("date 13 0;", 2, 5);
        Tell.wheelFault("date 12 5;", 2, 8);
        Tell.wheelFault("date 11 30;", 2, 8);
        Tell.wheelFault("date 12 4;date 1 1;", 3, 10);
        Tell.wheelFault("date 1;", 1, 6);
        Tell.wheelFault("sun 0 0;moon 0 30;sun 0 0;", 2, 15);
        WheelBook x = new WheelBook();
        Tell.told(x, 1, 2, "sun 1 1;rise 2 2;");
        Check.is("4: FAULT", Tell.wheel(x, 1, 2, "sun 5 5;mars 12 0;"), 2);
        Check.is("4: it stays", x.entry(1, 2, 0), 31);
        Check.is("4: it stays", x.entry(1, 2, 7), 62);
        Check.is("4: nothing comes", x.entry(1, 2, 4), -1);
        Check.is("4: told already in another text counts for nothing", Tell.wheel(x, 1, 2, "sun 5 5;"), 0);
    }

    private static void refusedCallsChangeNothing() {
        WheelBook x = new WheelBook();
        Check.is("5: FAULT", Tell.wheel(x, 0, 0, "sun 0 x"), 1);
        Check.is("5: fault", x.fault(), 6);
        Tell.feed(x, "hand 1 for 2;");
        Check.illegal("3: not so many", () -> x.house(21));
        Check.is("3: the tape stays", x.count(4), 20);
        Check.is("5: fault stays", x.fault(), 6);
        Check.illegal("4: not so many", () -> x.wheel(0, 0, 21));
        Check.illegal("4: below 0", () -> x.wheel(0, 0, -1));
        Check.missing("4: no such BOOK comes first", () -> x.wheel(6, 0, 21));
        Check.missing("4: no such BOOK", () -> x.wheel(-1, 0, 0));
        Check.missing("4: no such WHEEL", () -> x.wheel(0, 20, 0));
        Check.missing("4: no such WHEEL", () -> x.wheel(0, -1, -1));
        Check.is("4: the tape stays", x.count(4), 20);
        Check.is("5: fault stays", x.fault(), 6);
        Check.is("3: the text is still there", x.house(13), 0);
        Check.is("5: none without", x.fault(), -1);
        Check.is("3: it is told", x.count(1), 1);
    }

    private static void counts() {
        WheelBook x = Tell.withHouse(Tell.LEVEL + "hand 1 for 2;hand 2 for 1;");
        Tell.told(x, 0, 0, "sun 0 0;");
        Tell.told(x, 5, 19, "date 0 0;");
        Tell.told(x, 3, 3, "house 12 0 0;");
        Tell.told(x, 3, 4, "");
        x.life(4, 1, 2);
        x.life(4, 2, 2);
        x.life(5, 121, 2);
        x.fate(4, 1);
        x.fate(5, 12);
        x.fate(6, 0);
        Tell.feed(x, "x");
        Check.is("6: CLIMATES", x.count(0), 1);
        Check.is("6: HANDS", x.count(1), 2);
        Check.is("6: WHEELS", x.count(2), 3);
        Check.is("6: LIVES", x.count(3), 1);
        Check.is("6: bytes", x.count(4), 20);
        Check.is("6: FATES", x.count(5), 2);
        Check.missing("6: what 6", () -> x.count(6));
        Check.missing("6: what -1", () -> x.count(-1));
    }
}
