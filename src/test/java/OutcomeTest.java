/** Promises 38 to 41: LIVES and FATES, their HITS and CHANCES. */
public final class OutcomeTest {

    public static void main(String[] args) {
        lives();
        chanceOfLives();
        fates();
        chanceOfFates();
        Check.end("OutcomeTest");
    }

    private static void lives() {
        WheelBook x = new WheelBook();
        Check.is("38: told", x.life(0, 0, 120), true);
        Check.is("38: told", x.life(19, 120, 0), true);
        Check.is("38: told", x.life(5, 60, 61), true);
        Check.is("38: not as told", x.life(6, 121, 0), false);
        Check.is("38: not as told", x.life(6, 0, 121), false);
        Check.is("38: not as told", x.life(6, -1, 0), false);
        Check.is("38: not as told", x.life(6, 0, -1), false);
        Check.is("38: not as told, of one that is told", x.life(5, 60, 121), false);
        Check.missing("38: WHEEL 20", () -> x.life(20, 0, 0));
        Check.missing("38: WHEEL -1", () -> x.life(-1, 0, 0));
        Check.missing("38: WHEEL comes first", () -> x.life(20, 500, 0));
        Check.is("6: LIVES", x.count(3), 3);
        Check.is("41: no SLACK", x.hits(0, 0), 0);
        Check.is("41: SLACK 1", x.hits(0, 1), 1);
        Check.is("41: SLACK 119", x.hits(0, 119), 1);
        Check.is("41: SLACK 120", x.hits(0, 120), 3);
        x.life(5, 60, 60);
        Check.is("38: told again", x.hits(0, 0), 1);
        Check.is("6: LIVES", x.count(3), 3);
        Check.missing("41: what 2", () -> x.hits(2, 0));
        Check.missing("41: what -1", () -> x.hits(-1, 0));
        Check.missing("41: SLACK -1", () -> x.hits(0, -1));
        Check.missing("41: SLACK 121", () -> x.hits(1, 121));
    }

    private static void chanceOfLives() {
        WheelBook x = new WheelBook();
        Check.is("41: no LIVES: one way", x.hits(1, 0), 1);
        for (int wheel = 0; wheel < 8; wheel++) {
            x.life(wheel, 10 * wheel, 10 * wheel);
        }
        Check.is("41: all hit", x.hits(1, 0), 1);
        Check.is("41: all hit whichever way", x.hits(1, 70), 40320);
        x.life(0, 0, 10);
        x.life(1, 10, 0);
        // six hits; with six or more of eight: 28 swaps of two, and all
        Check.is("41: HITS", x.hits(0, 0), 6);
        Check.is("41: six or more", x.hits(1, 0), 29);
        x.life(8, 1, 1);
        Check.is("41: more than 8", x.hits(1, 0), -1);
        Check.is("41: HITS of more than 8", x.hits(0, 0), 7);
        Check.missing("41: SLACK comes first", () -> x.hits(1, 121));
        WheelBook like = new WheelBook();
        like.life(3, 50, 50);
        like.life(4, 50, 50);
        like.life(5, 50, 9);
        Check.is("41: like years are laid each by itself", like.hits(1, 0), 6);
    }

    private static void fates() {
        WheelBook x = new WheelBook();
        Tell.told(x, 0, 0, "rise 11 29;lot 1 0;");
        Tell.told(x, 0, 1, "rise 0 0;lot 11 0;");
        Tell.told(x, 0, 2, "rise 0 0;");
        Tell.told(x, 0, 3, "lot 0 0;");
        Tell.told(x, 1, 4, "rise 0 0;lot 0 0;");
        for (int wheel = 0; wheel < 5; wheel++) {
            Check.is("39: told", x.fate(wheel, 1), true);
        }
        Check.is("40: none", x.fates(0), 0);
        Check.is("39: told again", x.fate(0, 3), true);
        Check.is("40: SIGN 1 is the third from 11", x.fates(0), 1);
        x.fate(1, 12);
        Check.is("40: SIGN 11 is the twelfth from 0", x.fates(0), 2);
        Check.is("39: no such house", x.fate(1, 0), false);
        Check.is("39: no such house", x.fate(1, 13), false);
        Check.is("39: nothing changes", x.fates(0), 2);
        Check.is("6: FATES", x.count(5), 5);
        Check.is("39: the last WHEEL", x.fate(19, 12), true);
        Check.missing("39: WHEEL", () -> x.fate(20, 1));
        Check.missing("39: WHEEL comes first", () -> x.fate(-1, 13));
        Check.missing("40: what 2", () -> x.fates(2));
        Check.missing("40: what -1", () -> x.fates(-1));
    }

    private static void chanceOfFates() {
        WheelBook x = new WheelBook();
        Check.is("40: no FATES: one way", x.fates(1), 1);
        for (int wheel = 0; wheel < 8; wheel++) {
            Tell.told(x, 0, wheel, "rise 0 0;lot " + wheel + " 5;");
            x.fate(wheel, wheel + 1);
        }
        Check.is("40: all told by lot", x.fates(0), 8);
        Check.is("40: one way alone", x.fates(1), 1);
        x.fate(0, 2);
        x.fate(1, 1);
        Check.is("40: six", x.fates(0), 6);
        Check.is("40: six or more", x.fates(1), 29);
        Tell.told(x, 0, 7, "rise 0 0;");
        Check.is("40: five", x.fates(0), 5);
        Check.is("40: five or more of seven", x.fates(1), fiveOrMoreOfSeven());
        x.fate(8, 1);
        Check.is("40: more than 8", x.fates(1), -1);
        Check.is("40: told by lot of more than 8", x.fates(0), 5);
    }

    /** Of eight laid at random, how many ways leave five or more of the first seven in place. */
    private static int fiveOrMoreOfSeven() {
        // all seven: 1; just six: 7 * 1 (the odd one goes with the eighth); just five: 21 * (3! - 1 - 2)
        return 1 + 7 + 21 * 3;
    }
}
