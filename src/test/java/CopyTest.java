/** Promises 21 and 30 to 37: PRICES, THE TREE, SLIPS, HANDED ON, LEAVES and BIRTHS. */
public final class CopyTest {

    public static void main(String[] args) {
        prices();
        trees();
        treesOfLikeSums();
        keptTree();
        slips();
        slipsOfTheFirstBook();
        handed();
        leaves();
        orders();
        sameBirth();
        births();
        Check.end("CopyTest");
    }

    private static void prices() {
        WheelBook x = Tell.withHouse("hand 12 for 11;hand 3 for 1;");
        Tell.told(x, 0, 0, "sun 0 11;moon 1 5;rise 2 2;date 0 11;house 12 4 4;");
        Tell.told(x, 1, 0, "sun 0 12;moon 3 5;lot 2 2;date 0 12;house 12 4 5;");
        Check.is("21: 1 + 1 + 1 + 4 + 3 + 3", x.price(0, 1), 13);
        Check.is("21: 3 + 3 + 4 + 1 + 3 + 3", x.price(1, 0), 17);
        Check.is("21: of itself", x.price(0, 0), 0);
        Check.is("21: nothing told", x.price(2, 3), 0);
        Check.is("21: told in the other alone", x.price(0, 2), 5);
        Check.is("21: told in the copy alone", x.price(2, 0), 20);
        Tell.told(x, 2, 1, "sun 0 11;moon 1 5;rise 2 2;date 0 11;house 12 4 4;");
        Check.is("21: another WHEEL", x.price(0, 2), 25);
        Tell.told(x, 2, 1, "");
        Tell.told(x, 2, 0, "sun 0 11;moon 1 5;rise 2 2;date 0 11;house 12 4 4;");
        Check.is("21: alike", x.price(0, 2), 0);
        Tell.told(x, 3, 19, "date 11 29;");
        Tell.told(x, 4, 19, "date 12 4;");
        Check.is("21: DATES", x.price(3, 4), 3);
        Check.missing("21: BOOK 6", () -> x.price(6, 0));
        Check.missing("21: BOOK -1", () -> x.price(-1, 0));
        Check.missing("21: BOOK 6", () -> x.price(0, 6));
        Check.missing("21: BOOK -1", () -> x.price(0, -1));
    }

    private static void whence(String when, WheelBook x, int... due) {
        for (int book = 0; book < due.length; book++) {
            int b = book;
            if (due[b] == -2) {
                Check.missing("37: " + when + ", BOOK " + b, () -> x.whence(b));
            } else {
                Check.is("37: " + when + ", BOOK " + b, x.whence(b), due[b]);
            }
        }
    }

    private static void trees() {
        WheelBook x = new WheelBook();
        Check.is("36: no BOOK", x.tree(), -1);
        whence("no TREE", x, -2, -2, -2, -2, -2, -2);
        Tell.told(x, 4, 0, "date 0 0;");
        Check.is("36: one BOOK", x.tree(), 0);
        whence("one BOOK", x, -2, -2, -2, -2, -1, -2);
        Tell.told(x, 4, 0, "sun 0 0;moon 0 0;mars 0 0;");
        Tell.told(x, 2, 0, "sun 0 0;moon 0 0;");
        Tell.told(x, 0, 0, "sun 0 0;");
        Tell.told(x, 5, 0, "sun 0 0;mars 0 0;");
        // 2 and 5 from 4 (1 each), 0 from 2 or 5 (1)
        Check.is("36: each from the next fuller", x.tree(), 3);
        whence("each from the next fuller", x, 2, -2, 4, -2, -1, 4);
        Check.missing("37: BOOK 6", () -> x.whence(6));
        Check.missing("37: BOOK -1", () -> x.whence(-1));
    }

    private static void treesOfLikeSums() {
        WheelBook x = new WheelBook();
        for (int book = 0; book < 6; book++) {
            Tell.told(x, book, 3, "sun 0 0;");
        }
        Check.is("36: all alike", x.tree(), 0);
        whence("all alike, the first row", x, -1, 0, 0, 0, 0, 0);
        Tell.told(x, 0, 3, "sun 0 1;");
        Check.is("36: one stands out", x.tree(), 3);
        whence("NONE comes first", x, -1, 0, 1, 1, 1, 1);
        Tell.told(x, 0, 3, "");
        Check.is("36: without it", x.tree(), 0);
        whence("without it", x, -2, -1, 1, 1, 1, 1);
        Tell.told(x, 0, 3, "sun 0 0;moon 0 0;");
        Tell.told(x, 1, 3, "sun 0 0;moon 0 0;mars 0 0;");
        Check.is("36: three kinds", x.tree(), 2);
        whence("three kinds", x, 1, -1, 0, 2, 2, 2);
    }

    private static void keptTree() {
        WheelBook x = new WheelBook();
        Tell.told(x, 1, 0, "sun 0 0;");
        Tell.told(x, 2, 0, "sun 0 0;");
        x.tree();
        Tell.told(x, 1, 0, "");
        whence("kept until the next", x, -2, -1, 1, -2, -2, -2);
        Tell.told(x, 2, 0, "");
        Check.is("36: no BOOK now", x.tree(), -1);
        whence("what is kept stays", x, -2, -1, 1, -2, -2, -2);
        Check.is("30: a TREE is kept", x.slips(0, 0), 0);
    }

    private static void slips() {
        WheelBook x = Tell.withHouse("hand 12 for 11;hand 3 for 1;hand 3 for 2;");
        Check.missing("30: no TREE", () -> x.slips(0, 0));
        Tell.told(x, 0, 0, "sun 0 11;moon 1 5;rise 1 1;house 12 4 11;date 0 11;mars 2 3;venus 6 6;saturn 7 7;");
        Tell.told(x, 1, 0, "sun 0 12;moon 3 5;rise 3 1;house 12 4 12;date 0 12;mars 3 3;venus 6 6;");
        Tell.told(x, 2, 0, "sun 0 12;moon 3 5;rise 3 1;house 12 4 12;date 0 12;mars 3 3;");
        Check.is("36: 1 + 1 + 1 + 1 + 3 + 1 + 1, and 1", x.tree(), 10);
        whence("a row of copies", x, -1, 0, 1);
        Check.is("30: degrees", x.slips(12, 11), 2);
        Check.is("30: SIGNS", x.slips(3, 1), 2);
        Check.is("30: SIGNS", x.slips(3, 2), 1);
        Check.is("30: no HAND", x.slips(11, 12), 0);
        Check.is("30: no HAND", x.slips(0, 0), 0);
        Tell.told(x, 1, 0, "sun 0 12;");
        Check.is("30: what is told now counts, by the TREE that is kept", x.slips(12, 11), 1);
        Check.is("30: what is told now counts", x.slips(3, 1), 0);
        Check.is("30: read 29", x.slips(29, 0), 0);
        Check.is("30: stood 29", x.slips(0, 29), 0);
        Check.missing("30: read 30", () -> x.slips(30, 0));
        Check.missing("30: read -1", () -> x.slips(-1, 0));
        Check.missing("30: stood 30", () -> x.slips(0, 30));
        Check.missing("30: stood -1", () -> x.slips(0, -1));
    }

    /** The copy is BOOK 0, and what was misread stands in its last WHEEL. */
    private static void slipsOfTheFirstBook() {
        WheelBook x = Tell.withHouse("hand 12 for 11;hand 12 for 10;hand 13 for 11;");
        Tell.told(x, 5, 19, "sun 0 11;moon 0 10;mars 0 11;venus 1 1;");
        Tell.told(x, 0, 19, "sun 0 12;moon 0 12;mars 0 13;");
        Check.is("36: copied from the fuller one", x.tree(), 4);
        whence("the first one copied from the last", x, 5, -2, -2, -2, -2, -1);
        Check.is("30: both must be that", x.slips(12, 11), 1);
        Check.is("30: both must be that", x.slips(12, 10), 1);
        Check.is("30: both must be that", x.slips(13, 11), 1);
        Check.is("30: both must be that", x.slips(13, 10), 0);
    }

    private static void handed() {
        WheelBook x = new WheelBook();
        Tell.told(x, 0, 4, "sun 0 1;moon 0 2;mars 0 3;date 0 4;lot 0 5;");
        Tell.told(x, 1, 4, "sun 0 1;moon 0 2;mars 0 4;date 0 4;lot 0 5;");
        Tell.told(x, 2, 4, "sun 0 2;moon 0 2;mars 0 5;date 0 5;");
        Check.is("31: sun and DATE", x.handed(0, 1, 2), 2);
        Check.is("31: the other way", x.handed(1, 0, 2), 2);
        Check.is("31: none", x.handed(0, 2, 1), 0);
        Check.is("31: of itself", x.handed(0, 0, 1), 1);
        Tell.told(x, 3, 0, "sun 1 1;");
        Tell.told(x, 4, 0, "sun 1 1;");
        Tell.told(x, 5, 0, "sun 1 2;");
        Check.is("31: the very first ENTRY", x.handed(3, 4, 5), 1);
        Check.is("31: beside itself", x.handed(0, 1, 0), 0);
        Check.missing("31: a", () -> x.handed(6, 0, 0));
        Check.missing("31: b", () -> x.handed(0, -1, 0));
        Check.missing("31: c", () -> x.handed(0, 0, 6));
    }

    private static void leaves() {
        WheelBook x = new WheelBook();
        for (int i = 0; i < 20; i++) {
            Check.is("32: leaf", x.leaf(5, 7 * i % 20), i + 1);
            Check.is("32: it has that", x.leaf(5, 7 * i % 20), -1);
        }
        Check.is("32: it has all", x.leaf(5, 0), -1);
        Check.is("32: another BOOK", x.leaf(4, 0), 1);
        Check.missing("32: BOOK", () -> x.leaf(6, 0));
        Check.missing("32: BOOK", () -> x.leaf(-1, 0));
        Check.missing("32: WHEEL", () -> x.leaf(0, 20));
        Check.missing("32: WHEEL", () -> x.leaf(0, -1));
        Check.is("33: with itself", x.order(5, 5, 0), 20);
        Check.is("33: none turned", x.order(5, 5, 1), 0);
        Check.is("33: one in common", x.order(5, 4, 0), 1);
        Check.is("33: one in common", x.order(4, 5, 1), 0);
    }

    private static void orders() {
        WheelBook x = new WheelBook();
        for (int wheel : new int[] {4, 1, 9, 2, 8, 3}) {
            x.leaf(0, wheel);
        }
        for (int wheel : new int[] {3, 8, 7, 1, 2, 4, 19}) {
            x.leaf(1, wheel);
        }
        // places in 1, by the order of 0: 5, 3, 4, 1, 0
        Check.is("33: in order", x.order(0, 1, 0), 2);
        Check.is("33: in order", x.order(1, 0, 0), 2);
        Check.is("33: turned", x.order(0, 1, 1), 9);
        Check.is("33: turned", x.order(1, 0, 1), 9);
        Check.is("33: none in common", x.order(0, 2, 0), 0);
        Check.is("33: none in common", x.order(2, 3, 1), 0);
        Check.missing("33: what 2", () -> x.order(0, 1, 2));
        Check.missing("33: what -1", () -> x.order(0, 1, -1));
        Check.missing("33: BOOK", () -> x.order(6, 1, 0));
        Check.missing("33: BOOK", () -> x.order(0, -1, 0));
    }

    private static void sameBirth() {
        WheelBook x = Tell.withHouse("hand 12 for 11;");
        Tell.told(x, 0, 0, "sun 0 11;moon 1 1;mars 2 2;rise 5 5;");
        Tell.told(x, 5, 19, "sun 0 12;moon 1 1;venus 2 2;rise 6 6;");
        Check.is("34: two in common", x.same(0, 119, 2), true);
        Check.is("34: the other way", x.same(119, 0, 2), true);
        Check.is("34: not three", x.same(0, 119, 3), false);
        Tell.told(x, 5, 19, "sun 0 12;moon 1 2;mars 2 2;");
        Check.is("34: one stands out", x.same(0, 119, 1), false);
        Check.is("34: nothing told", x.same(1, 2, 1), false);
        Check.is("34: with itself", x.same(0, 0, 3), true);
        Check.is("34: with itself, too few", x.same(0, 0, 4), false);
        Check.missing("34: k 0", () -> x.same(0, 0, 0));
        Check.missing("34: k 8", () -> x.same(0, 0, 8));
        Check.missing("34: 120", () -> x.same(120, 0, 1));
        Check.missing("34: -1", () -> x.same(0, -1, 1));
        Check.missing("34: NONE", () -> x.same(-1, 0, 1));
    }

    private static void births() {
        WheelBook x = Tell.withHouse("hand 12 for 11;hand 13 for 12;");
        Check.is("35: none", x.births(-1, 1), 0);
        Tell.told(x, 0, 7, "sun 0 13;");
        Tell.told(x, 3, 0, "sun 0 11;");
        Check.is("35: apart", x.births(-1, 1), 2);
        Check.is("35: itself", x.births(60, 1), 60);
        Tell.told(x, 5, 19, "sun 0 12;moon 4 4;");
        Check.is("35: joined by another one", x.births(-1, 1), 1);
        Check.is("35: the least of them", x.births(60, 1), 7);
        Check.is("35: the least of them", x.births(119, 1), 7);
        Check.is("35: the least of them", x.births(7, 1), 7);
        Check.is("35: two are wanted", x.births(-1, 2), 3);
        Tell.told(x, 1, 1, "date 0 0;");
        Check.is("35: a WHEEL that tells no WANDERER is a part", x.births(-1, 1), 2);
        Check.is("35: itself", x.births(21, 1), 21);
        Check.is("35: tells nothing", x.births(0, 1), 0);
        Check.is("35: tells nothing", x.births(118, 7), 118);
        Tell.told(x, 0, 0, "sun 0 12;");
        Check.is("35: WHEEL 0 with them", x.births(119, 1), 0);
        Check.is("35: WHEEL 0 with them", x.births(7, 1), 0);
        Check.is("35: WHEEL 0 is in a part", x.births(-1, 1), 2);
        Tell.told(x, 0, 0, "sun 5 5;");
        Check.is("35: WHEEL 0 is a part", x.births(-1, 1), 3);
        Check.is("35: WHEEL 0 by itself", x.births(0, 1), 0);
        Check.missing("35: k 0", () -> x.births(-1, 0));
        Check.missing("35: k 8", () -> x.births(0, 8));
        Check.missing("35: 120", () -> x.births(120, 1));
        Check.missing("35: -2", () -> x.births(-2, 1));
    }
}
