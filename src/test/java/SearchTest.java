/** Promises 22 to 26: the SEARCH and its image. */
public final class SearchTest {

    public static void main(String[] args) {
        noSearch();
        goesOn();
        end();
        images();
        newTellingCounts();
        refused();
        Check.end("SearchTest");
    }

    private static WheelBook sky() {
        WheelBook x = Tell.withHouse("set 1 sun at 0 goes 60000;hand 12 for 11;");
        Tell.told(x, 2, 5, "sun 0 12;");
        return x;
    }

    private static void held(String when, WheelBook x, int... due) {
        for (int what = 0; what <= 4; what++) {
            Check.is("24: " + when + ", what " + what, x.held(what), due[what]);
        }
    }

    private static void noSearch() {
        WheelBook x = sky();
        x.best(2, 5, 1, 0, 10);
        Check.missing("23: no SEARCH", () -> x.on(1));
        Check.missing("23: no SEARCH comes first", () -> x.on(-1));
        Check.missing("24: no SEARCH", () -> x.held(0));
        Check.is("25: no SEARCH", x.image(), false);
        Check.is("26: no image", x.restore(), false);
        x.seek(2, 5, 1, 3);
        Check.is("26: no image of it", x.restore(), false);
    }

    private static void goesOn() {
        WheelBook x = sky();
        x.seek(2, 5, 1, 8);
        held("of no DAYS", x, 8, -1, 0, -1, -1);
        Check.is("23: on by none", x.on(0), 0);
        held("of no DAYS still", x, 8, -1, 0, -1, -1);
        Check.is("23: on", x.on(3), 3);
        held("COST 9", x, 11, 9, 3, 8, 10);
        Check.is("23: on", x.on(1), 1);
        held("COST 1", x, 12, 1, 1, 11, 11);
        Check.is("23: on", x.on(360), 360);
        held("COST 0", x, 372, 0, 1, 12, 12);
        Check.is("23: on", x.on(361), 361);
        held("COST 0 again and again", x, 733, 0, 3, 12, 732);
        Check.is("23: on by 50,000", x.on(50000), 50000);
        held("far on", x, 50733, 0, 141, 12, 12 + 360 * 140);
        x.seek(2, 5, 1, 13);
        held("anew", x, 13, -1, 0, -1, -1);
        Check.missing("22: the SEARCH is no BEST", () -> x.day(-1));
    }

    private static void end() {
        WheelBook x = sky();
        x.seek(2, 5, 1, 999998);
        Check.is("23: to the last DAY at most", x.on(50), 3);
        held("at its end", x, 1000001, 9, 3, 999998, 1000000);
        Check.is("23: no more", x.on(1), 0);
        held("at its end still", x, 1000001, 9, 3, 999998, 1000000);
        x.seek(2, 5, 1, 1000000);
        Check.is("24: the last DAY", x.held(0), 1000000);
        Check.is("23: the last DAY", x.on(1), 1);
        Check.is("24: behind it", x.held(0), 1000001);
    }

    private static void images() {
        WheelBook x = sky();
        x.seek(2, 5, 1, 10);
        x.on(1);
        Check.is("25: image", x.image(), true);
        x.on(5);
        held("gone on", x, 16, 0, 1, 12, 12);
        Check.is("26: restore", x.restore(), true);
        held("as the image", x, 11, 9, 1, 10, 10);
        x.on(1);
        held("on from the image", x, 12, 1, 1, 11, 11);
        x.seek(0, 0, 0, 5);
        Check.is("26: restore again, of another SEARCH", x.restore(), true);
        x.on(2);
        held("WHEEL and SET of the image", x, 13, 0, 1, 12, 12);
        Check.is("25: in place of another one", x.image(), true);
        x.on(100);
        x.restore();
        held("as the new image", x, 13, 0, 1, 12, 12);
    }

    private static void newTellingCounts() {
        WheelBook x = sky();
        x.seek(2, 5, 1, 0);
        x.on(11);
        held("ahead", x, 11, 9, 11, 0, 10);
        Tell.told(x, 2, 5, "sun 0 11;moon 5 5;");
        x.on(1);
        held("a new WHEEL counts from then on", x, 12, 9, 12, 0, 11);
        Tell.house(x, "set 1 moon at 9300 goes 0;set 1 sun at 660 goes 0;");
        x.on(2);
        held("new tables count from then on", x, 14, 0, 2, 12, 13);
    }

    private static void refused() {
        WheelBook x = sky();
        x.seek(2, 5, 1, 8);
        x.on(2);
        Check.illegal("23: -1", () -> x.on(-1));
        Check.illegal("23: 50,001", () -> x.on(50001));
        Check.missing("22: BOOK", () -> x.seek(6, 0, 0, 0));
        Check.missing("22: WHEEL", () -> x.seek(0, 20, 0, 0));
        Check.missing("22: SET", () -> x.seek(0, 0, 4, 0));
        Check.missing("22: SET", () -> x.seek(0, 0, -1, 0));
        Check.missing("22: DAY", () -> x.seek(0, 0, 0, 1000001));
        Check.missing("22: DAY", () -> x.seek(0, 0, 0, -1));
        Check.missing("24: what 5", () -> x.held(5));
        Check.missing("24: what -1", () -> x.held(-1));
        held("as ahead of it", x, 10, 9, 2, 8, 9);
        x.seek(0, 0, 3, 1);
        held("by SET 3", x, 1, -1, 0, -1, -1);
    }
}
