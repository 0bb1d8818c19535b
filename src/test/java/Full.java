import java.util.ArrayList;
import java.util.List;
import java.util.NoSuchElementException;

/** A book in which something of each kind is told, kept and begun, and all that can be asked of it. */
final class Full {
    private static final String TAPE = "hand 9 for 8;";

    private Full() {
    }

    /** Some 70 calls. */
    static WheelBook book() {
        WheelBook x = new WheelBook();
        StringBuilder climates = new StringBuilder();
        for (int climate = 0; climate < 7; climate++) {
            climates.append("climate ").append(climate).append(" 1 1 1 1 1 1 1 1 1 1 ").append(1 + climate);
            climates.append(' ').append(3589 - climate).append(";");
        }
        Tell.house(x, climates.toString());
        Tell.house(x, "set 0 sun at 0 goes 0;set 1 moon at 60 goes 500 swing 90 in 8;set 3 saturn at 7 goes 1999;"
                + "hand 1 for 0;hand 2 for 1;");
        for (int book = 0; book < 6; book++) {
            Tell.wheel(x, book, 0, "sun 0 0;moon 0 1;rise 0 0;lot 0 " + book + ";house 12 11 0;");
        }
        Tell.wheel(x, 5, 19, "sun 0 1;saturn 3 4;date 12 4;");
        Tell.wheel(x, 0, 1, "sun 0 1;moon 0 x");
        x.best(0, 0, 0, 10, 30);
        x.seek(5, 19, 3, 100);
        x.on(5);
        x.image();
        x.on(300);
        x.tree();
        for (int wheel = 0; wheel < 4; wheel++) {
            x.leaf(0, wheel);
            x.leaf(1, 3 - wheel);
            x.life(wheel, 30 + wheel, 33);
            x.fate(wheel, 1 + wheel);
        }
        Tell.feed(x, TAPE);
        return x;
    }

    /** Some 330 calls, the last of which change the book: two books of like answers are in the same state. */
    static List<Integer> answers(WheelBook x) {
        List<Integer> all = new ArrayList<>();
        all.add(x.fault());
        for (int what = 0; what <= 5; what++) {
            all.add(x.count(what));
        }
        for (int i = 0; i < 28; i++) {
            all.add(x.place(i / 7, i % 7, 1003));
        }
        wheels(x, all);
        for (int climate = 0; climate < x.count(0); climate++) {
            all.add(x.climb(climate, 20000));
        }
        for (int i = -1; i < Math.min(20, x.day(-1)); i++) {
            all.add(x.day(i));
        }
        copies(x, all);
        for (int what = 0; what <= 1; what++) {
            all.add(x.fates(what));
            all.add(x.hits(what, 1));
            all.add(x.order(0, 1, what));
        }
        search(x, all);
        all.add(x.restore() ? 1 : 0);
        search(x, all);
        for (int book = 0; book < 6; book++) {
            all.add(x.leaf(book, 19));
        }
        tape(x, all);
        return all;
    }

    private static void wheels(WheelBook x, List<Integer> all) {
        int[] entries = {0, 1, 6, 7, 8, 20, 21};
        for (int book = 0; book < 6; book++) {
            for (int wheel = 0; wheel < 20; wheel += wheel == 0 ? 1 : 18) {
                for (int entry : entries) {
                    all.add(x.entry(book, wheel, entry));
                }
            }
        }
    }

    private static void copies(WheelBook x, List<Integer> all) {
        for (int book = 0; book < 6; book++) {
            all.add(whence(x, book));
            all.add(x.price(0, book));
        }
        all.add(x.slips(1, 0));
        all.add(x.slips(2, 1));
        all.add(x.births(-1, 1));
    }

    private static int whence(WheelBook x, int book) {
        try {
            return x.whence(book);
        } catch (NoSuchElementException e) {
            return -2;
        }
    }

    private static void search(WheelBook x, List<Integer> all) {
        for (int what = 0; what <= 4; what++) {
            all.add(x.held(what));
        }
        all.add(x.on(700));
        for (int what = 0; what <= 4; what++) {
            all.add(x.held(what));
        }
    }

    private static void tape(WheelBook x, List<Integer> all) {
        int bytes = x.count(4);
        all.add(bytes);
        all.add(x.house(bytes));
        all.add(x.fault());
        all.add(x.count(1));
    }
}
