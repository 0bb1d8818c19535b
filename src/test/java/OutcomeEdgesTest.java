/** Each sentence on LIVES and FATES (part 4, promises 38 to 41) that names a boundary. */
public final class OutcomeEdgesTest {

    public static void main(String[] args) {
        lives();
        lifeRefused();
        hitsBySlack();
        chanceOfLives();
        hitsRefused();
        fatesByLot();
        fateRefused();
        chanceOfFates();
        fatesRefused();
        Check.end("OutcomeEdgesTest");
    }

    private static void lives() {
        Check.sentence("LIVES: of WHEELS (by number, 0 to 19): years foretold, years that came (0 to 120 each).");
        WheelBook x = new WheelBook();
        Check.is("38: the first", x.life(0, 0, 0), true);
        Check.is("38: the last", x.life(19, 120, 120), true);
        Check.is("38: 0 and 120", x.life(1, 0, 120), true);
        Check.is("38: 120 and 0", x.life(2, 120, 0), true);
        Check.is("38: foretold 121", x.life(3, 121, 0), false);
        Check.is("38: foretold -1", x.life(3, -1, 0), false);
        Check.is("38: came 121", x.life(3, 0, 121), false);
        Check.is("38: came -1", x.life(3, 0, -1), false);
        Check.is("38: least", x.life(3, Integer.MIN_VALUE, Integer.MIN_VALUE), false);
        Check.is("38: greatest", x.life(3, Integer.MAX_VALUE, Integer.MAX_VALUE), false);
        Check.is("6: LIVES", x.count(3), 4);
        for (int wheel = 0; wheel < 20; wheel++) {
            x.life(wheel, 5, 5);
        }
        Check.is("6: all twenty", x.count(3), 20);
        Check.is("41: all twenty", x.hits(0, 0), 20);
    }

    private static void lifeRefused() {
        Check.sentence("A LIFE of a WHEEL is told (again): true. False: years are not as told. NoSuchElementException: no such WHEEL.");
        WheelBook x = new WheelBook();
        Check.is("38: told", x.life(7, 30, 32), true);
        Check.is("41: they differ by 2", x.hits(0, 1), 0);
        Check.is("38: not as told", x.life(7, 30, 121), false);
        Check.is("38: not as told", x.life(7, -1, 32), false);
        Check.is("41: it stays", x.hits(0, 2), 1);
        Check.is("41: it stays", x.hits(0, 1), 0);
        Check.is("38: told again", x.life(7, 30, 31), true);
        Check.is("41: they differ by 1", x.hits(0, 1), 1);
        Check.is("6: one LIFE", x.count(3), 1);
        Check.missing("38: WHEEL 20", () -> x.life(20, 1, 1));
        Check.missing("38: WHEEL -1", () -> x.life(-1, 1, 1));
        Check.missing("38: WHEEL 20 comes first", () -> x.life(20, 121, 1));
        Check.is("6: one LIFE still", x.count(3), 1);
    }

    private static void hitsBySlack() {
        Check.sentence("HITS: those of which both differ by no more than a SLACK.");
        int[] slacks = {0, 1, 5, 119, 120};
        for (int slack : slacks) {
            WheelBook x = new WheelBook();
            x.life(0, 0, slack);
            Check.is("41: came later by SLACK " + slack, x.hits(0, slack), 1);
            x.life(0, slack, 0);
            Check.is("41: came sooner by SLACK " + slack, x.hits(0, slack), 1);
            if (slack < 120) {
                x.life(0, 0, slack + 1);
                Check.is("41: came later by more than " + slack, x.hits(0, slack), 0);
                x.life(0, slack + 1, 0);
                Check.is("41: came sooner by more than " + slack, x.hits(0, slack), 0);
            }
        }
        Check.is("41: no LIVES", new WheelBook().hits(0, 120), 0);
    }

    private static void chanceOfLives() {
        Check.sentence("CHANCE (of at most 8 LIVES): of all ways to lay the years that came beside those foretold, "
                + "how many have as many HITS or more.");
        int[] ways = {1, 1, 2, 6, 24, 120, 720, 5040, 40320};
        WheelBook x = new WheelBook();
        for (int many = 0; many <= 8; many++) {
            Check.is("41: all hit, of " + many, x.hits(1, 0), 1);
            Check.is("41: each way hits, of " + many, x.hits(1, 120), ways[many]);
            x.life(19 - many, 10 * many, 10 * many);
        }
        Check.is("41: of nine", x.hits(1, 0), -1);
        Check.is("41: HITS of nine", x.hits(0, 0), 9);
        WheelBook none = new WheelBook();
        for (int many = 1; many <= 8; many++) {
            none.life(many, 100, many);
            Check.is("41: none hits, so each way has as many", none.hits(1, 0), ways[many]);
        }
        WheelBook turned = new WheelBook();
        turned.life(0, 10, 20);
        turned.life(1, 20, 10);
        turned.life(2, 30, 30);
        // one HIT: of six ways one has 3, three have 1, two have none
        Check.is("41: as many or more", turned.hits(1, 0), 4);
        // by 10 each differs by no more but 10 and 30: only ways that lay 30 beside 10, or 10 beside 30, hit less
        Check.is("41: three HITS", turned.hits(0, 10), 3);
        Check.is("41: as many or more", turned.hits(1, 10), 3);
        WheelBook like = new WheelBook();
        like.life(0, 40, 40);
        like.life(1, 50, 40);
        Check.is("41: like years are laid each by itself", like.hits(1, 0), 2);
    }

    private static void hitsRefused() {
        Check.sentence("HITS (what 0), CHANCE (1) by a SLACK (0 to 120). NONE: of CHANCE more than 8 LIVES. "
                + "NoSuchElementException: another what, SLACK.");
        WheelBook x = new WheelBook();
        Check.is("41: SLACK 0", x.hits(0, 0), 0);
        Check.is("41: SLACK 120", x.hits(1, 120), 1);
        Check.missing("41: what 2", () -> x.hits(2, 0));
        Check.missing("41: what -1", () -> x.hits(-1, 0));
        Check.missing("41: SLACK 121", () -> x.hits(0, 121));
        Check.missing("41: SLACK -1", () -> x.hits(1, -1));
        for (int wheel = 0; wheel < 8; wheel++) {
            x.life(wheel, 1, 1);
        }
        Check.is("41: of eight", x.hits(1, 0), 40320);
        x.life(8, 1, 1);
        Check.is("41: of nine", x.hits(1, 0), -1);
        Check.is("41: HITS of nine", x.hits(0, 0), 9);
        Check.missing("41: SLACK 121 comes first", () -> x.hits(1, 121));
        Check.missing("41: what 2 comes first", () -> x.hits(2, 0));
    }

    private static void fatesByLot() {
        Check.sentence("TOLD BY LOT: those of which the SIGN of the LOT's ENTRY is that of the house by WAY 0 (LOT and RISE being told).");
        WheelBook x = new WheelBook();
        x.fate(0, 1);
        Check.is("40: neither is told", x.fates(0), 0);
        Tell.told(x, 0, 0, "rise 0 0;");
        Check.is("40: no LOT", x.fates(0), 0);
        Tell.told(x, 0, 0, "lot 0 0;");
        Check.is("40: no RISE", x.fates(0), 0);
        String[] rises = {"0 0", "0 29", "11 0", "11 29"};
        for (String rise : rises) {
            int sign = rise.startsWith("11") ? 11 : 0;
            for (int house = 1; house <= 12; house += house == 1 || house == 11 ? 1 : 9) {
                int due = (sign + house - 1) % 12;
                x.fate(0, house);
                Tell.told(x, 0, 0, "rise " + rise + ";lot " + due + " 0;");
                Check.is("40: house " + house + " of " + rise, x.fates(0), 1);
                Tell.told(x, 0, 0, "rise " + rise + ";lot " + due + " 29;");
                Check.is("40: house " + house + " of " + rise, x.fates(0), 1);
                Tell.told(x, 0, 0, "rise " + rise + ";lot " + (due + 1) % 12 + " 0;");
                Check.is("40: house " + house + " of " + rise + ", a SIGN on", x.fates(0), 0);
                Tell.told(x, 0, 0, "rise " + rise + ";lot " + (due + 11) % 12 + " 29;");
                Check.is("40: house " + house + " of " + rise + ", a SIGN ahead", x.fates(0), 0);
            }
        }
        Check.sentence("FATES: of WHEELS (of BOOK 0) a house (1 to 12) of what came.");
        WheelBook other = new WheelBook();
        for (int book = 1; book < 6; book++) {
            Tell.told(other, book, 3, "rise 0 0;lot 0 0;");
        }
        other.fate(3, 1);
        Check.is("40: of another BOOK", other.fates(0), 0);
        Tell.told(other, 0, 3, "rise 0 0;lot 0 0;");
        Check.is("40: of BOOK 0", other.fates(0), 1);
    }

    private static void fateRefused() {
        Check.sentence("A FATE of a WHEEL (of BOOK 0) is told (again): true. False: no such house. NoSuchElementException: no such WHEEL.");
        WheelBook x = Tell.withWheel("rise 0 0;lot 0 0;");
        Check.is("39: house 1", x.fate(0, 1), true);
        Check.is("39: house 12", x.fate(19, 12), true);
        Check.is("39: house 0", x.fate(0, 0), false);
        Check.is("39: house 13", x.fate(0, 13), false);
        Check.is("39: least", x.fate(0, Integer.MIN_VALUE), false);
        Check.is("39: greatest", x.fate(5, Integer.MAX_VALUE), false);
        Check.is("40: it stays", x.fates(0), 1);
        Check.is("6: two FATES", x.count(5), 2);
        Check.missing("39: WHEEL 20", () -> x.fate(20, 1));
        Check.missing("39: WHEEL -1", () -> x.fate(-1, 1));
        Check.missing("39: WHEEL 20 comes first", () -> x.fate(20, 13));
        Check.is("6: two FATES still", x.count(5), 2);
        Check.is("39: told again", x.fate(0, 2), true);
        Check.is("40: it counts", x.fates(0), 0);
        Check.is("6: two FATES still", x.count(5), 2);
    }

    private static void chanceOfFates() {
        Check.sentence("CHANCE (of at most 8 FATES) likewise: of all ways to lay these houses on those WHEELS.");
        int[] ways = {1, 1, 2, 6, 24, 120, 720, 5040, 40320};
        WheelBook x = new WheelBook();
        for (int many = 0; many <= 8; many++) {
            Check.is("40: all told by lot, of " + many, x.fates(1), 1);
            Tell.told(x, 0, 19 - many, "rise 0 0;lot " + many + " 0;");
            x.fate(19 - many, many + 1);
        }
        Check.is("40: of nine", x.fates(1), -1);
        Check.is("40: told by lot of nine", x.fates(0), 9);
        WheelBook none = new WheelBook();
        for (int many = 1; many <= 8; many++) {
            none.fate(many, many);
            Check.is("40: none told by lot, so each way has as many", none.fates(1), ways[many]);
        }
        WheelBook like = new WheelBook();
        Tell.told(like, 0, 0, "rise 0 0;lot 0 0;");
        Tell.told(like, 0, 1, "rise 0 0;lot 1 0;");
        like.fate(0, 1);
        like.fate(1, 1);
        like.fate(2, 1);
        Check.is("40: like houses are laid each by itself", like.fates(1), 6);
        like.fate(2, 2);
        // houses 1, 1, 2 on lots of house 1, of 2, of none: one told. Ways: 1 1 2, 1 2 1, 2 1 1, each twice
        Check.is("40: as many or more", like.fates(1), 4);
    }

    private static void fatesRefused() {
        Check.sentence("TOLD BY LOT (what 0), CHANCE (1). NONE: of CHANCE more than 8 FATES. NoSuchElementException: another what.");
        WheelBook x = new WheelBook();
        Check.is("40: no FATES", x.fates(0), 0);
        Check.is("40: one way to lay none", x.fates(1), 1);
        for (int wheel = 0; wheel < 8; wheel++) {
            x.fate(wheel, 1);
        }
        Check.is("40: of eight", x.fates(1), 40320);
        x.fate(19, 1);
        Check.is("40: of nine", x.fates(1), -1);
        Check.is("40: told by lot of nine", x.fates(0), 0);
        Check.missing("40: what 2", () -> x.fates(2));
        Check.missing("40: what -1", () -> x.fates(-1));
    }
}
