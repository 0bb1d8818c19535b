/** Each sentence on the SEARCH and its image (part 3, promises 22 to 26) that names a boundary. */
public final class SearchEdgesTest {
    private static final int LAST = 1000000;

    public static void main(String[] args) {
        toldAnewCounts();
        seek();
        seekRefused();
        on();
        onRefused();
        held();
        heldRefused();
        image();
        restore();
        Check.end("SearchEdgesTest");
    }

    /** By SET 2 the sun goes one minute a DAY, and WHEEL 19 of BOOK 5 tells it at DEGREE 1. */
    private static WheelBook sky() {
        WheelBook x = Tell.withHouse("set 2 sun at 0 goes 1000;hand 1 for 0;hand 1 for 2;");
        Tell.told(x, 5, 19, "sun 0 1;");
        return x;
    }

    private static void held(String when, WheelBook x, int... due) {
        for (int what = 0; what <= 4; what++) {
            Check.is("24: " + when + ", what " + what, x.held(what), due[what]);
        }
    }

    private static void toldAnewCounts() {
        Check.sentence("A SEARCH goes on likewise from a DAY, by so many DAYS each time (what was told anew counts from then on)");
        WheelBook x = sky();
        x.seek(5, 19, 2, 0);
        x.on(60);
        held("60 DAYS at COST 1", x, 60, 1, 60, 0, 59);
        Tell.told(x, 5, 19, "sun 0 9;");
        x.on(1);
        held("a WHEEL told anew: COST 9", x, 61, 1, 60, 0, 59);
        Tell.told(x, 5, 19, "sun 0 1;");
        x.on(1);
        held("and as it was: COST 0", x, 62, 0, 1, 61, 61);
        Tell.house(x, "set 2 sun at 30 goes 0;");
        x.on(1);
        held("tables told anew: COST 1", x, 63, 0, 1, 61, 61);
        Tell.house(x, "set 2 sun at 60 goes 0;");
        x.on(2);
        held("tables told anew: COST 0", x, 65, 0, 3, 61, 64);
        Tell.told(x, 5, 19, "sun 0 1;moon 0 3;");
        x.seek(5, 19, 2, 100);
        x.on(1);
        held("COST 9", x, 101, 9, 1, 100, 100);
        Tell.house(x, "hand 3 for 0;");
        x.on(1);
        held("a HAND told anew: COST 1", x, 102, 1, 1, 101, 101);
        Tell.told(x, 5, 19, "");
        x.on(1);
        held("nothing told: COST 0", x, 103, 0, 1, 102, 102);
    }

    private static void seek() {
        Check.sentence("SEARCH from a DAY on, by a SET: nothing is looked through yet.");
        WheelBook x = sky();
        x.seek(5, 19, 2, 60);
        held("nothing yet", x, 60, -1, 0, -1, -1);
        x.on(3);
        held("three", x, 63, 0, 3, 60, 62);
        x.seek(5, 19, 2, 60);
        held("anew", x, 60, -1, 0, -1, -1);
        x.seek(0, 0, 0, 0);
        held("the first DAY", x, 0, -1, 0, -1, -1);
        x.seek(5, 19, 3, LAST);
        held("the last DAY", x, LAST, -1, 0, -1, -1);
    }

    private static void seekRefused() {
        Check.sentence("NoSuchElementException: also no such SET, DAY.");
        WheelBook x = sky();
        Check.missing("22: BOOK", () -> x.seek(6, 0, 0, 0));
        Check.missing("23: no SEARCH by that", () -> x.on(1));
        x.seek(5, 19, 2, 59);
        x.on(2);
        Check.missing("22: BOOK 6", () -> x.seek(6, 0, 0, 0));
        Check.missing("22: BOOK -1", () -> x.seek(-1, 0, 0, 0));
        Check.missing("22: WHEEL 20", () -> x.seek(0, 20, 0, 0));
        Check.missing("22: WHEEL -1", () -> x.seek(0, -1, 0, 0));
        Check.missing("22: SET 4", () -> x.seek(0, 0, 4, 0));
        Check.missing("22: SET -1", () -> x.seek(0, 0, -1, 0));
        Check.missing("22: DAY 1,000,001", () -> x.seek(0, 0, 0, LAST + 1));
        Check.missing("22: DAY -1", () -> x.seek(0, 0, 0, -1));
        held("the SEARCH stays", x, 61, 0, 1, 60, 60);
        x.on(1);
        held("its WHEEL and SET stay", x, 62, 0, 2, 60, 61);
    }

    private static void on() {
        Check.sentence("It goes on by so many DAYS: how many were (to DAY 1,000,000 at most).");
        WheelBook x = sky();
        x.seek(5, 19, 2, 0);
        Check.is("23: none", x.on(0), 0);
        held("none", x, 0, -1, 0, -1, -1);
        Check.is("23: one", x.on(1), 1);
        Check.is("23: 50,000", x.on(50000), 50000);
        Check.is("24: it goes on from", x.held(0), 50001);
        x.seek(5, 19, 2, 950001);
        Check.is("23: just to the end", x.on(50000), 50000);
        Check.is("24: at its end", x.held(0), LAST + 1);
        Check.is("23: no more", x.on(50000), 0);
        Check.is("24: at its end still", x.held(0), LAST + 1);
        x.seek(5, 19, 2, 950002);
        Check.is("23: one less", x.on(50000), 49999);
        x.seek(5, 19, 2, 999999);
        Check.is("23: ahead of the end", x.on(1), 1);
        held("ahead of the end", x, LAST, 9, 1, 999999, 999999);
        Check.is("23: the last DAY", x.on(2), 1);
        held("the last DAY", x, LAST + 1, 9, 2, 999999, LAST);
        Check.is("23: none", x.on(0), 0);
        Check.is("23: none", x.on(1), 0);
        held("behind it", x, LAST + 1, 9, 2, 999999, LAST);
    }

    private static void onRefused() {
        Check.sentence("NoSuchElementException: there is no SEARCH. IllegalArgumentException: not 0 to 50,000.");
        WheelBook x = sky();
        Check.missing("23: no SEARCH", () -> x.on(0));
        Check.missing("23: no SEARCH comes first", () -> x.on(-1));
        Check.missing("23: no SEARCH comes first", () -> x.on(50001));
        x.best(5, 19, 2, 0, 3);
        Check.missing("23: a BEST is no SEARCH", () -> x.on(1));
        x.seek(5, 19, 2, 7);
        Check.illegal("23: -1", () -> x.on(-1));
        Check.illegal("23: 50,001", () -> x.on(50001));
        Check.illegal("23: least", () -> x.on(Integer.MIN_VALUE));
        Check.illegal("23: greatest", () -> x.on(Integer.MAX_VALUE));
        held("nothing changes", x, 7, -1, 0, -1, -1);
        x.seek(5, 19, 2, LAST);
        x.on(1);
        Check.illegal("23: at its end too", () -> x.on(50001));
    }

    private static void held() {
        Check.sentence("Of the SEARCH: 0 the DAY it goes on from (1,000,001 at its end), 1 the least COST (NONE of no DAYS), "
                + "2 how many DAYS have it, 3 the first of these (NONE), 4 the latest.");
        WheelBook x = sky();
        x.seek(5, 19, 2, 0);
        held("of no DAYS", x, 0, -1, 0, -1, -1);
        x.on(60);
        held("all at DEGREE 0, COST 1", x, 60, 1, 60, 0, 59);
        x.on(1);
        held("one at DEGREE 1, COST 0", x, 61, 0, 1, 60, 60);
        x.on(59);
        held("all of DEGREE 1", x, 120, 0, 60, 60, 119);
        x.on(21540);
        held("a round on", x, 21660, 0, 60, 60, 119);
        x.on(1);
        held("and one", x, 21661, 0, 61, 60, 21660);
        x.seek(5, 19, 2, 120);
        x.on(1);
        held("DEGREE 2, COST 1", x, 121, 1, 1, 120, 120);
        x.on(60);
        held("DEGREE 3, COST 9, counts for nothing", x, 181, 1, 60, 120, 179);
        x.seek(5, 19, 2, LAST);
        held("ahead of the end", x, LAST, -1, 0, -1, -1);
        x.on(1);
        held("at its end", x, LAST + 1, 9, 1, LAST, LAST);
    }

    private static void heldRefused() {
        Check.sentence("NoSuchElementException: there is none, another what.");
        WheelBook x = sky();
        for (int what = -1; what <= 5; what++) {
            int w = what;
            Check.missing("24: no SEARCH, what " + w, () -> x.held(w));
        }
        x.best(5, 19, 2, 0, 3);
        Check.missing("24: a BEST is no SEARCH", () -> x.held(0));
        x.seek(5, 19, 2, 3);
        Check.missing("24: what 5", () -> x.held(5));
        Check.missing("24: what -1", () -> x.held(-1));
        held("0 to 4", x, 3, -1, 0, -1, -1);
    }

    private static void image() {
        Check.sentence("An image of the SEARCH is kept in place of another one: true. False: there is no SEARCH.");
        WheelBook x = sky();
        Check.is("25: no SEARCH", x.image(), false);
        Check.is("26: so no image", x.restore(), false);
        x.best(5, 19, 2, 0, 3);
        Check.is("25: a BEST is no SEARCH", x.image(), false);
        x.seek(5, 19, 2, 3);
        Check.is("25: of no DAYS yet", x.image(), true);
        x.on(4);
        Check.is("26: restore", x.restore(), true);
        held("of no DAYS yet", x, 3, -1, 0, -1, -1);
        x.on(5);
        Check.is("25: in place of that", x.image(), true);
        x.on(5);
        x.restore();
        held("the new one", x, 8, 1, 5, 3, 7);
        x.seek(5, 19, 2, LAST);
        x.on(1);
        Check.is("25: at its end", x.image(), true);
        x.seek(0, 0, 0, 0);
        x.restore();
        held("at its end", x, LAST + 1, 9, 1, LAST, LAST);
        Check.is("23: at its end", x.on(1), 0);
    }

    private static void restore() {
        Check.sentence("The SEARCH is as the image again: true. False: there is none.");
        WheelBook x = sky();
        Check.is("26: none", x.restore(), false);
        x.seek(5, 19, 2, 3);
        x.on(2);
        Check.is("26: a SEARCH, but no image", x.restore(), false);
        held("it goes on as it was", x, 5, 1, 2, 3, 4);
        x.image();
        x.seek(0, 0, 0, 100);
        x.on(1);
        held("another SEARCH", x, 101, 0, 1, 100, 100);
        Check.is("26: again", x.restore(), true);
        held("as the image", x, 5, 1, 2, 3, 4);
        x.on(56);
        held("BOOK, WHEEL and SET are the image's", x, 61, 0, 1, 60, 60);
        Check.is("26: as often as one likes", x.restore(), true);
        held("as the image", x, 5, 1, 2, 3, 4);
        Tell.told(x, 5, 19, "sun 0 0;");
        x.restore();
        held("what was looked through stays so", x, 5, 1, 2, 3, 4);
        x.on(1);
        held("what was told anew is no part of it", x, 6, 0, 1, 5, 5);
    }
}
