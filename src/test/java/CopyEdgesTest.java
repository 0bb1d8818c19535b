/** Each sentence on copies, LEAVES and BIRTHS (part 4, promises 21 and 30 to 37) that names a boundary. */
public final class CopyEdgesTest {

    public static void main(String[] args) {
        prices();
        priceOfDates();
        priceOfAll();
        priceRefused();
        treeIsNoRing();
        treesOfOneRow();
        treeOfTheFirstRow();
        treeKept();
        treeOfTheLeastSum();
        whenceRefused();
        slipsOfEntries();
        slipsRefused();
        handed();
        handedRefused();
        leaves();
        leafRefused();
        inOrder();
        turned();
        orderRefused();
        same();
        sameByCost();
        sameRefused();
        births();
        wheelNumbers();
        birthsRefused();
        Check.end("CopyEdgesTest");
    }

    private static String entryName(int entry) {
        String[] names = {"sun", "moon", "mercury", "venus", "mars", "jupiter", "saturn", "rise", "lot"};
        return entry < 9 ? names[entry] : entry == 21 ? "date" : "house " + (entry - 8);
    }

    // ---- PRICES

    private static void prices() {
        Check.sentence("0 alike (or told in neither); 1 told in the other one alone, or the copy's is at COST 1 beside the other's "
                + "(of DATES: never); 4 told in the copy alone; 3 else.");
        WheelBook x = Tell.withHouse("hand 2 for 1;");
        String[] froms = {"", "%s 1 1;", "%s 1 1;", "%s 1 1;", "%s 1 2;", "%s 1 1;", "%s 2 1;", "%s 1 1;", "", "%s 1 1;"};
        String[] copies = {"", "%s 1 1;", "", "%s 1 2;", "%s 1 1;", "%s 2 1;", "%s 1 1;", "%s 2 2;", "%s 1 1;", "%s 3 1;"};
        int[] due = {0, 0, 1, 1, 3, 1, 3, 3, 4, 3};
        for (int entry = 0; entry < 21; entry += 4) {
            for (int i = 0; i < due.length; i++) {
                Tell.told(x, 0, 0, String.format(froms[i], entryName(entry)));
                Tell.told(x, 5, 0, String.format(copies[i], entryName(entry)));
                Check.is("21: " + entryName(entry) + ", case " + i, x.price(0, 5), due[i]);
            }
        }
    }

    private static void priceOfDates() {
        Check.sentence("(of DATES: never)");
        WheelBook x = Tell.withHouse("hand 2 for 1;hand 12 for 11;");
        String[] froms = {"date 1 1;", "date 1 1;", "date 1 1;", "date 1 1;", "", "date 11 4;", "date 0 0;"};
        String[] copies = {"date 1 1;", "date 1 2;", "date 2 1;", "", "date 1 1;", "date 12 4;", ""};
        int[] due = {0, 3, 3, 1, 4, 3, 1};
        for (int i = 0; i < due.length; i++) {
            Tell.told(x, 0, 0, froms[i]);
            Tell.told(x, 1, 0, copies[i]);
            Check.is("21: DATES, case " + i, x.price(0, 1), due[i]);
        }
    }

    private static void priceOfAll() {
        Check.sentence("of all ENTRIES (0 to 21) of all WHEELS");
        for (int entry = 0; entry < 22; entry++) {
            WheelBook x = new WheelBook();
            Tell.told(x, 2, 0, entryName(entry) + " 0 0;");
            Tell.told(x, 2, 19, entryName(entry) + " 0 0;");
            Check.is("21: two told in the other one alone, " + entryName(entry), x.price(2, 3), 2);
            Check.is("21: two told in the copy alone, " + entryName(entry), x.price(3, 2), 8);
            Tell.told(x, 3, 1, entryName(entry) + " 0 0;");
            Check.is("21: another WHEEL", x.price(2, 3), 6);
        }
        WheelBook x = new WheelBook();
        StringBuilder all = new StringBuilder();
        for (int entry = 0; entry < 22; entry++) {
            all.append(entryName(entry)).append(" 0 0;");
        }
        for (int wheel = 0; wheel < 20; wheel++) {
            Tell.told(x, 0, wheel, all.toString());
        }
        Check.is("21: the greatest", x.price(1, 0), 4 * 440);
        Check.is("21: the other way", x.price(0, 1), 440);
    }

    private static void priceRefused() {
        Check.sentence("PRICE of a BOOK's being copied from another one (0 of itself).");
        WheelBook x = Tell.withHouse("hand 1 for 1;");
        Tell.told(x, 5, 19, "sun 1 1;date 12 4;");
        for (int book = 0; book < 6; book++) {
            Check.is("21: of itself", x.price(book, book), 0);
        }
        Check.missing("21: from 6", () -> x.price(6, 0));
        Check.missing("21: from -1", () -> x.price(-1, 0));
        Check.missing("21: copy 6", () -> x.price(0, 6));
        Check.missing("21: copy -1", () -> x.price(0, -1));
    }

    // ---- THE TREE

    private static void whence(WheelBook x, int... due) {
        for (int book = 0; book < 6; book++) {
            int b = book;
            if (due[b] == -2) {
                Check.missing("37: BOOK " + b, () -> x.whence(b));
            } else {
                Check.is("37: BOOK " + b, x.whence(b), due[b]);
            }
        }
    }

    private static void treeIsNoRing() {
        Check.sentence("one of them is first, each other copied from one of them, none from itself by others");
        WheelBook x = new WheelBook();
        Tell.told(x, 0, 0, "sun 0 0;");
        Tell.told(x, 1, 0, "sun 0 0;");
        Tell.told(x, 2, 0, "moon 0 0;");
        Tell.told(x, 3, 0, "moon 0 0;");
        // from a kind to the other 1 and 4; two rings of two would come to 0
        Check.is("36: two kinds", x.tree(), 5);
        whence(x, -1, 0, 0, 2, -2, -2);
        Tell.told(x, 4, 0, "mars 0 0;");
        Tell.told(x, 5, 0, "mars 0 0;");
        Check.is("36: three kinds", x.tree(), 10);
        whence(x, -1, 0, 0, 2, 0, 4);
        // one that tells all: of it each of the others is a copy at 2, or of its like at 0
        Tell.told(x, 5, 0, "sun 0 0;moon 0 0;mars 0 0;");
        Check.is("36: one that tells all", x.tree(), 6);
        whence(x, 1, 5, 3, 5, 5, -1);
    }

    /** Each BOOK tells one ENTRY less than the one it was copied from: in all 720 orders. */
    private static void treesOfOneRow() {
        for (int code = 0; code < 720; code++) {
            int[] order = {0, 1, 2, 3, 4, 5};
            int rest = code;
            for (int i = 0; i < 5; i++) {
                int j = i + rest % (6 - i);
                rest /= 6 - i;
                int swap = order[i];
                order[i] = order[j];
                order[j] = swap;
            }
            WheelBook x = new WheelBook();
            int[] due = new int[6];
            for (int i = 0; i < 6; i++) {
                StringBuilder text = new StringBuilder();
                for (int entry = 0; entry < 6 - i; entry++) {
                    text.append(entryName(entry)).append(" 0 0;");
                }
                Tell.wheel(x, order[i], 0, text.toString());
                due[order[i]] = i == 0 ? -1 : order[i - 1];
            }
            Check.is("36: a row of five copies", x.tree(), 5);
            whence(x, due);
        }
    }

    private static void treeOfTheFirstRow() {
        Check.sentence("the least sum of PRICES; of like ones the first as a row: by BOOKS from 0 on whence "
                + "(the first one: NONE; NONE ahead of 0)");
        WheelBook x = new WheelBook();
        for (int book = 0; book < 6; book++) {
            Tell.told(x, book, 7, "lot 0 0;");
        }
        Check.is("36: all alike", x.tree(), 0);
        whence(x, -1, 0, 0, 0, 0, 0);
        Tell.told(x, 0, 7, "");
        Check.is("36: without BOOK 0", x.tree(), 0);
        whence(x, -2, -1, 1, 1, 1, 1);
        Tell.told(x, 0, 7, "lot 0 1;");
        // 3 either way round
        Check.is("36: BOOK 0 otherwise", x.tree(), 3);
        whence(x, -1, 0, 1, 1, 1, 1);
        Tell.told(x, 0, 7, "lot 0 0;");
        Tell.told(x, 1, 7, "lot 0 1;");
        Check.is("36: BOOK 1 otherwise", x.tree(), 3);
        whence(x, -1, 0, 0, 0, 0, 0);
    }

    private static void treeKept() {
        Check.sentence("THE TREE: its sum; it is kept. NONE: no BOOK tells something (what is kept stays).");
        WheelBook x = new WheelBook();
        Check.is("36: no BOOK", x.tree(), -1);
        whence(x, -2, -2, -2, -2, -2, -2);
        Tell.told(x, 3, 0, "date 0 0;");
        Check.missing("37: none is kept yet", () -> x.whence(3));
        Check.is("36: one BOOK", x.tree(), 0);
        whence(x, -2, -2, -2, -1, -2, -2);
        Tell.told(x, 1, 19, "date 0 0;");
        whence(x, -2, -2, -2, -1, -2, -2);
        Check.is("36: two BOOKS", x.tree(), 5);
        whence(x, -2, -1, -2, 1, -2, -2);
        Tell.told(x, 1, 19, "");
        Tell.told(x, 3, 0, "");
        Check.is("36: none again", x.tree(), -1);
        whence(x, -2, -1, -2, 1, -2, -2);
        Tell.told(x, 0, 0, "sun 0 0;");
        Check.is("36: another one", x.tree(), 0);
        whence(x, -1, -2, -2, -2, -2, -2);
    }

    private static void treeOfTheLeastSum() {
        Check.sentence("the least sum of PRICES");
        WheelBook x = Tell.withHouse("hand 1 for 0;hand 2 for 1;");
        // the copies go up by a HAND each: 2 from 1 from 0, told from the last BOOK on
        Tell.told(x, 5, 0, "sun 0 0;");
        Tell.told(x, 3, 0, "sun 0 1;");
        Tell.told(x, 1, 0, "sun 0 2;");
        Check.is("36: 1 and 1", x.tree(), 2);
        whence(x, -2, 3, -2, 5, -2, -1);
        WheelBook full = new WheelBook();
        StringBuilder all = new StringBuilder();
        for (int entry = 0; entry < 22; entry++) {
            all.append(entryName(entry)).append(" 0 0;");
        }
        for (int wheel = 0; wheel < 20; wheel++) {
            Tell.told(full, 4, wheel, all.toString());
        }
        Tell.told(full, 2, 0, "sun 0 1;");
        Check.is("36: a great sum", full.tree(), 439 + 3);
        whence(full, -2, -2, 4, -2, -1, -2);
    }

    private static void whenceRefused() {
        Check.sentence("Whence a BOOK was copied by the TREE that is kept; NONE: it is the first. "
                + "NoSuchElementException: no such BOOK, it isn't in it, none is kept.");
        WheelBook x = new WheelBook();
        Tell.told(x, 5, 0, "sun 0 0;");
        Check.missing("37: none is kept", () -> x.whence(5));
        x.tree();
        Tell.told(x, 0, 0, "sun 0 0;");
        Check.is("37: the first", x.whence(5), -1);
        Check.missing("37: BOOK 0 isn't in it", () -> x.whence(0));
        Check.missing("37: BOOK 6", () -> x.whence(6));
        Check.missing("37: BOOK -1", () -> x.whence(-1));
        x.tree();
        Check.is("37: BOOK 0 is in it", x.whence(0), -1);
        Check.is("37: copied", x.whence(5), 0);
    }

    private static void slipsOfEntries() {
        Check.sentence("SLIPS of a HAND by THE TREE: ENTRIES (0 to 20) of copies at COST 1 beside that of which they are, "
                + "in which that was read for that.");
        for (int entry = 0; entry < 22; entry++) {
            WheelBook x = Tell.withHouse("hand 2 for 1;hand 4 for 3;");
            String filler = entry == 1 ? "sun 9 9;" : "moon 9 9;";
            Tell.told(x, 0, 19, entryName(entry) + " 1 3;" + filler);
            Tell.told(x, 1, 19, entryName(entry) + " 2 3;");
            Tell.told(x, 2, 19, entryName(entry) + " 2 4;");
            boolean counts = entry < 21;
            Check.is("36: " + entryName(entry), x.tree(), counts ? 3 : 7);
            Check.is("30: the SIGN, " + entryName(entry), x.slips(2, 1), counts ? 1 : 0);
            Check.is("30: the degree, " + entryName(entry), x.slips(4, 3), counts ? 1 : 0);
            Check.is("30: the other way", x.slips(1, 2), 0);
            Check.is("30: no HAND", x.slips(3, 4), 0);
        }
        WheelBook x = Tell.withHouse("hand 1 for 0;");
        Tell.told(x, 0, 0, "sun 0 0;moon 0 0;mars 0 0;venus 0 0;");
        Tell.told(x, 1, 0, "sun 1 0;moon 0 1;mars 1 1;venus 0 0;");
        x.tree();
        Check.is("30: a SIGN and a degree by one HAND, not both at once", x.slips(1, 0), 2);
        Check.is("30: alike is no SLIP", x.slips(0, 0), 0);
        for (int copy = 0; copy < 6; copy++) {
            WheelBook y = Tell.withHouse("hand 1 for 0;");
            Tell.told(y, (copy + 1) % 6, 0, "sun 0 0;moon 0 0;");
            Tell.told(y, copy, 0, "sun 0 1;");
            Check.is("36: BOOK " + copy + " is the copy", y.tree(), 2);
            Check.is("30: BOOK " + copy + " is the copy", y.slips(1, 0), 1);
        }
    }

    private static void slipsRefused() {
        Check.sentence("NoSuchElementException: not 0 to 29, no TREE is kept.");
        WheelBook x = Tell.withHouse("hand 29 for 0;hand 0 for 29;");
        Tell.told(x, 0, 0, "sun 0 0;moon 0 29;lot 3 3;");
        Tell.told(x, 1, 0, "sun 0 29;moon 0 0;");
        Check.missing("30: no TREE", () -> x.slips(29, 0));
        x.tree();
        Check.is("30: 29 for 0", x.slips(29, 0), 1);
        Check.is("30: 0 for 29", x.slips(0, 29), 1);
        Check.is("30: 0 for 0", x.slips(0, 0), 0);
        Check.is("30: 29 for 29", x.slips(29, 29), 0);
        Check.missing("30: read 30", () -> x.slips(30, 0));
        Check.missing("30: read -1", () -> x.slips(-1, 0));
        Check.missing("30: stood 30", () -> x.slips(0, 30));
        Check.missing("30: stood -1", () -> x.slips(0, -1));
        Tell.told(x, 0, 0, "");
        Tell.told(x, 1, 0, "");
        x.tree();
        Check.is("30: the TREE is kept still", x.slips(29, 0), 0);
    }

    private static void handed() {
        Check.sentence("HANDED ON from a to b, beside a BOOK c: ENTRIES (0 to 21) that all three tell, a and b alike, c otherwise.");
        for (int entry = 0; entry < 22; entry++) {
            WheelBook x = new WheelBook();
            String name = entryName(entry);
            int wheel = entry % 2 == 0 ? 0 : 19;
            Tell.told(x, 0, wheel, name + " 0 0;");
            Tell.told(x, 5, wheel, name + " 0 0;");
            Check.is("31: c tells nothing, " + name, x.handed(0, 5, 2), 0);
            Check.is("31: b tells nothing, " + name, x.handed(0, 2, 5), 0);
            Check.is("31: a tells nothing, " + name, x.handed(2, 0, 5), 0);
            Tell.told(x, 2, wheel, name + " 0 1;");
            Check.is("31: c otherwise, " + name, x.handed(0, 5, 2), 1);
            Check.is("31: a and b otherwise, " + name, x.handed(0, 2, 5), 0);
            Tell.told(x, 2, wheel, name + " 0 0;");
            Check.is("31: all alike, " + name, x.handed(0, 5, 2), 0);
            Tell.told(x, 2, 19 - wheel, name + " 0 1;");
            Tell.told(x, 2, wheel, "");
            Check.is("31: of another WHEEL, " + name, x.handed(0, 5, 2), 0);
        }
    }

    private static void handedRefused() {
        Check.sentence("HANDED ON. NoSuchElementException: no such BOOKS.");
        WheelBook x = new WheelBook();
        Check.is("31: none", x.handed(5, 5, 5), 0);
        Check.missing("31: a 6", () -> x.handed(6, 0, 0));
        Check.missing("31: a -1", () -> x.handed(-1, 0, 0));
        Check.missing("31: b 6", () -> x.handed(0, 6, 0));
        Check.missing("31: b -1", () -> x.handed(0, -1, 0));
        Check.missing("31: c 6", () -> x.handed(0, 0, 6));
        Check.missing("31: c -1", () -> x.handed(0, 0, -1));
    }

    // ---- LEAVES

    private static void leaves() {
        Check.sentence("LEAVES: each BOOK has WHEELS in an order (each at most once, as told).");
        WheelBook x = new WheelBook();
        for (int i = 0; i < 20; i++) {
            Check.is("32: BOOK 0", x.leaf(0, 19 - i), i + 1);
            Check.is("32: BOOK 5", x.leaf(5, i), i + 1);
        }
        for (int wheel = 0; wheel < 20; wheel++) {
            Check.is("32: it has that", x.leaf(0, wheel), -1);
        }
        Check.is("33: all twenty turned", x.order(0, 5, 1), 190);
        Check.is("33: one in order", x.order(0, 5, 0), 1);
        Check.is("33: all twenty in order", x.order(5, 5, 0), 20);
        Check.is("32: another BOOK has none", x.leaf(1, 19), 1);
    }

    private static void leafRefused() {
        Check.sentence("A LEAF of a BOOK: how many there are. NONE: it has that WHEEL.");
        WheelBook x = new WheelBook();
        Check.is("32: the first", x.leaf(5, 19), 1);
        Check.is("32: it has that", x.leaf(5, 19), -1);
        Check.missing("32: BOOK 6", () -> x.leaf(6, 0));
        Check.missing("32: BOOK -1", () -> x.leaf(-1, 0));
        Check.missing("32: WHEEL 20", () -> x.leaf(5, 20));
        Check.missing("32: WHEEL -1", () -> x.leaf(5, -1));
        Check.is("32: none of these came", x.leaf(5, 0), 2);
        Check.is("6: no WHEEL is told by it", x.count(2), 0);
    }

    private static WheelBook twoBooks(int[] a, int[] b) {
        WheelBook x = new WheelBook();
        for (int wheel : a) {
            x.leaf(0, wheel);
        }
        for (int wheel : b) {
            x.leaf(5, wheel);
        }
        return x;
    }

    private static void orderIs(int[] a, int[] b, int inOrder, int turned) {
        WheelBook x = twoBooks(a, b);
        Check.is("33: IN ORDER", x.order(0, 5, 0), inOrder);
        Check.is("33: IN ORDER", x.order(5, 0, 0), inOrder);
        Check.is("33: TURNED", x.order(0, 5, 1), turned);
        Check.is("33: TURNED", x.order(5, 0, 1), turned);
    }

    private static void inOrder() {
        Check.sentence("IN ORDER of two BOOKS: the most WHEELS of both that come in the same order in both.");
        orderIs(new int[] {}, new int[] {}, 0, 0);
        orderIs(new int[] {1}, new int[] {}, 0, 0);
        orderIs(new int[] {1}, new int[] {1}, 1, 0);
        orderIs(new int[] {1, 2}, new int[] {3, 4}, 0, 0);
        orderIs(new int[] {1, 2}, new int[] {1, 2}, 2, 0);
        orderIs(new int[] {1, 2}, new int[] {2, 1}, 1, 1);
        orderIs(new int[] {1, 9, 2, 8, 3}, new int[] {7, 1, 2, 6, 3}, 3, 0);
        // the greatest row is no one that begins with the first, nor one of neighbours
        orderIs(new int[] {5, 0, 1, 6, 2, 3}, new int[] {0, 1, 2, 3, 5, 6}, 4, 6);
        orderIs(new int[] {2, 0, 3, 1}, new int[] {0, 1, 2, 3}, 2, 3);
    }

    private static void turned() {
        Check.sentence("TURNED: pairs of WHEELS of both that come one way in the one, the other way in the other.");
        orderIs(new int[] {0, 1, 2, 3}, new int[] {3, 2, 1, 0}, 1, 6);
        orderIs(new int[] {0, 1, 2, 3}, new int[] {1, 0, 3, 2}, 2, 2);
        orderIs(new int[] {0, 19, 1}, new int[] {1, 18, 0}, 1, 1);
    }

    private static void orderRefused() {
        Check.sentence("IN ORDER (what 0), TURNED (1). NoSuchElementException: no such BOOKS, another what.");
        WheelBook x = new WheelBook();
        Check.is("33: what 0", x.order(5, 5, 0), 0);
        Check.is("33: what 1", x.order(5, 5, 1), 0);
        Check.missing("33: what 2", () -> x.order(0, 1, 2));
        Check.missing("33: what -1", () -> x.order(0, 1, -1));
        Check.missing("33: a 6", () -> x.order(6, 0, 0));
        Check.missing("33: a -1", () -> x.order(-1, 0, 0));
        Check.missing("33: b 6", () -> x.order(0, 6, 1));
        Check.missing("33: b -1", () -> x.order(0, -1, 1));
    }

    // ---- BIRTHS

    private static void same() {
        Check.sentence("two WHEELS (of any BOOKS) that have at least k WANDERERS in common (that both tell)");
        StringBuilder first = new StringBuilder("rise 1 1;lot 1 1;house 1 1 1;date 1 1;");
        for (int many = 0; many <= 7; many++) {
            WheelBook x = new WheelBook();
            Tell.told(x, 0, 0, first.toString());
            Tell.told(x, 5, 19, "sun 1 1;moon 1 1;mercury 1 1;venus 1 1;mars 1 1;jupiter 1 1;saturn 1 1;rise 1 1;lot 1 1;");
            for (int k = 1; k <= 7; k++) {
                Check.is("34: " + many + " in common, k " + k, x.same(0, 119, k), many >= k);
                Check.is("34: " + many + " in common, k " + k, x.same(119, 0, k), many >= k);
                Check.is("35: " + many + " in common, k " + k, x.births(-1, k), many >= k ? 1 : 2);
                Check.is("35: " + many + " in common, k " + k, x.births(119, k), many >= k ? 0 : 119);
            }
            first.append(many < 7 ? entryName(many) + " 1 1;" : "");
        }
        WheelBook x = new WheelBook();
        Tell.told(x, 0, 0, "sun 0 0;");
        Tell.told(x, 0, 1, "moon 0 0;");
        Check.is("34: each tells another one", x.same(0, 1, 1), false);
        Check.is("34: nothing told", x.same(2, 3, 1), false);
    }

    private static void sameByCost() {
        Check.sentence("and of each of these one is at COST 1 at most beside the other");
        WheelBook x = Tell.withHouse("hand 2 for 1;");
        Tell.told(x, 0, 0, "sun 1 1;moon 1 1;");
        String[] others = {"sun 1 1;moon 1 1;", "sun 1 2;moon 1 1;", "sun 2 1;moon 1 2;", "sun 2 2;moon 1 1;", "sun 1 3;moon 1 1;",
            "sun 1 1;moon 5 5;", "sun 1 1;moon 1 1;mars 5 5;rise 7 7;"};
        boolean[] due = {true, true, true, false, false, false, true};
        for (int i = 0; i < others.length; i++) {
            Tell.told(x, 3, 3, others[i]);
            Check.is("34: " + others[i], x.same(0, 63, 1), due[i]);
            Check.is("34: the other way, " + others[i], x.same(63, 0, 1), due[i]);
        }
        Tell.told(x, 0, 0, "sun 1 2;moon 1 1;");
        Tell.told(x, 3, 3, "sun 1 1;moon 1 2;");
        Check.is("34: one read in this, another in that", x.same(0, 63, 2), true);
    }

    private static void sameRefused() {
        Check.sentence("NoSuchElementException: not 1 to 7, no such numbers of WHEELS (0 to 119).");
        WheelBook x = new WheelBook();
        Check.is("34: 0 and 119, k 1", x.same(0, 119, 1), false);
        Check.is("34: 119 and 0, k 7", x.same(119, 0, 7), false);
        Check.missing("34: k 0", () -> x.same(0, 1, 0));
        Check.missing("34: k 8", () -> x.same(0, 1, 8));
        Check.missing("34: -1", () -> x.same(-1, 0, 1));
        Check.missing("34: 120", () -> x.same(120, 0, 1));
        Check.missing("34: other -1", () -> x.same(0, -1, 1));
        Check.missing("34: other 120", () -> x.same(0, 120, 1));
    }

    private static void births() {
        Check.sentence("BIRTHS: WHEELS that tell something, parted so that those of THE SAME BIRTH, and all joined by such, are together.");
        WheelBook x = Tell.withHouse("hand 1 for 0;hand 2 for 1;hand 3 for 2;hand 4 for 3;");
        int[] numbers = {80, 3, 119, 41, 20};
        for (int i = 0; i < 5; i++) {
            Tell.told(x, numbers[i] / 20, numbers[i] % 20, "sun 0 " + i + ";");
        }
        Check.is("34: the first and the last are not the same", x.same(80, 20, 1), false);
        Check.is("35: a row of five", x.births(-1, 1), 1);
        for (int number : numbers) {
            Check.is("35: WHEEL " + number, x.births(number, 1), 3);
        }
        Tell.told(x, 5, 19, "");
        Check.is("35: without the one between", x.births(-1, 1), 2);
        int[] due = {3, 3, 119, 20, 20};
        for (int i = 0; i < 5; i++) {
            Check.is("35: WHEEL " + numbers[i], x.births(numbers[i], 1), due[i]);
        }
        Check.is("35: by two WANDERERS each is by itself", x.births(-1, 2), 4);
        Tell.told(x, 0, 0, "rise 1 1;");
        Tell.told(x, 0, 1, "date 0 0;");
        Check.is("35: WHEELS without WANDERERS are parts", x.births(-1, 1), 4);
        Check.is("35: WHEEL 0", x.births(0, 1), 0);
        Check.is("35: WHEEL 1", x.births(1, 1), 1);
    }

    private static void wheelNumbers() {
        Check.sentence("The number of a WHEEL: 20 by its BOOK, and its own.");
        WheelBook x = new WheelBook();
        Tell.told(x, 0, 19, "sun 1 1;");
        Tell.told(x, 1, 0, "sun 1 1;");
        Check.is("34: 19 and 20", x.same(19, 20, 1), true);
        Check.is("34: 18 and 20", x.same(18, 20, 1), false);
        Check.is("34: 19 and 21", x.same(19, 21, 1), false);
        Check.is("35: 20 is with 19", x.births(20, 1), 19);
    }

    private static void birthsRefused() {
        Check.sentence("BIRTHS by k WANDERERS: how many parts (wheel NONE), the least number of a WHEEL with which one is together "
                + "(itself, if it tells nothing). NoSuchElementException: likewise.");
        WheelBook x = new WheelBook();
        Check.is("35: no parts", x.births(-1, 1), 0);
        Check.is("35: no parts", x.births(-1, 7), 0);
        Check.is("35: itself", x.births(0, 1), 0);
        Check.is("35: itself", x.births(119, 7), 119);
        Tell.told(x, 0, 0, "sun 1 1;");
        Check.is("35: itself still", x.births(119, 1), 119);
        Check.missing("35: -2", () -> x.births(-2, 1));
        Check.missing("35: 120", () -> x.births(120, 1));
        Check.missing("35: k 0", () -> x.births(-1, 0));
        Check.missing("35: k 8", () -> x.births(-1, 8));
        Check.missing("35: k 0", () -> x.births(0, 0));
        Check.missing("35: k 8", () -> x.births(0, 8));
    }
}
