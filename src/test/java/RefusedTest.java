import java.util.List;

/** A refused call changes nothing; nor does a question. What is asked behind it is as without it. */
public final class RefusedTest {
    private static final List<Integer> DUE = Full.answers(Full.book());

    public static void main(String[] args) {
        for (Bounds bounds : Bounds.all()) {
            outside(bounds);
        }
        questions();
        noneAndFalse();
        faultyTexts();
        answersTellBooksApart();
        Check.end("RefusedTest");
    }

    private static boolean isAsBefore(WheelBook x) {
        return Full.answers(x).equals(DUE);
    }

    private static void outside(Bounds bounds) {
        for (int i = 0; i < bounds.most.length; i++) {
            if (bounds.outside[i] != Bounds.FINE) {
                for (int wrong : bounds.wrongOf(i)) {
                    int[] args = bounds.least.clone();
                    args[i] = wrong;
                    WheelBook x = Full.book();
                    bounds.outcome(x, args);
                    Check.is(bounds.text(args) + " leaves all as it was", isAsBefore(x), true);
                }
            }
        }
    }

    private static void questions() {
        String changing = "house|wheel|best|seek|on|leaf|life|fate";
        for (Bounds bounds : Bounds.all()) {
            if (!bounds.call.matches(changing)) {
                WheelBook x = Full.book();
                bounds.outcome(x, bounds.least.clone());
                Check.is("the question " + bounds.text(bounds.least) + " leaves all as it was", isAsBefore(x), true);
            }
        }
        WheelBook x = Full.book();
        x.fault();
        Check.is("the question fault() leaves all as it was", isAsBefore(x), true);
    }

    private interface Change {
        void on(WheelBook x);
    }

    private static void leaves(String what, Change change) {
        WheelBook x = Full.book();
        change.on(x);
        Check.is(what + " leaves all as it was", isAsBefore(x), true);
    }

    private static void changes(String what, Change change) {
        WheelBook x = Full.book();
        change.on(x);
        Check.is(what + " changes something", isAsBefore(x), false);
    }

    private static void noneAndFalse() {
        leaves("23: on(0)", x -> x.on(0));
        leaves("32: a LEAF that is there", x -> x.leaf(0, 3));
        leaves("38: years that are not as told", x -> x.life(3, 121, 3));
        leaves("38: years that are not as told", x -> x.life(9, 3, -1));
        leaves("39: no such house", x -> x.fate(3, 0));
        leaves("39: no such house", x -> x.fate(9, 13));
        leaves("36: the same TREE again", x -> x.tree());
        leaves("10: the same BEST again", x -> x.best(0, 0, 0, 10, 30));
        leaves("38: the same LIFE again", x -> x.life(1, 31, 33));
        leaves("39: the same FATE again", x -> x.fate(1, 2));
    }

    /** The tape is empty behind a FAULT, and its place is known; all else stays. */
    private static void faultyTexts() {
        String[] houses = {"set 0 sun at 5 goes 5 swing 5 in 5;x", "hand 3 for 4;hand 30", "climate 7 1 1", "hand 1 for 1"};
        for (String text : houses) {
            WheelBook x = Full.book();
            x.house(0);
            Check.is("3: a FAULT of " + text, Tell.house(x, text) > 0, true);
            again(x);
            Check.is("3: " + text + " leaves all as it was", isAsBefore(x), true);
        }
        String[] wheels = {"sun 5 5;x", "sun 5 5;sun", "sun 5 5;date 12 5;", "sun 5 5"};
        for (String text : wheels) {
            WheelBook x = Full.book();
            x.house(0);
            Check.is("4: a FAULT of " + text, Tell.wheel(x, 5, 19, text) > 0, true);
            again(x);
            Check.is("4: " + text + " leaves all as it was", isAsBefore(x), true);
        }
    }

    /** The FAULT and the tape of Full, once more. */
    private static void again(WheelBook x) {
        Tell.wheel(x, 0, 1, "sun 0 1;moon 0 x");
        Tell.feed(x, "hand 9 for 8;");
    }

    /** Were the answers alike whatever is done, all of the above would be worth nothing. */
    private static void answersTellBooksApart() {
        changes("2: feed", x -> x.feed(0x20202020, 0x20202020, 0x20202020, 0x20202020, 0x20202020));
        changes("3: house", x -> x.house(0));
        changes("4: wheel", x -> x.wheel(5, 19, 0));
        changes("10: best", x -> x.best(0, 0, 0, 10, 29));
        changes("22: seek", x -> x.seek(0, 0, 0, 7));
        changes("23: on", x -> x.on(1));
        changes("25: image", x -> x.image());
        changes("26: restore", x -> x.restore());
        changes("32: leaf", x -> x.leaf(5, 0));
        changes("38: life", x -> x.life(3, 90, 33));
        changes("39: fate", x -> x.fate(0, 2));
        changes("36: tree", x -> {
            x.house(0);
            Tell.wheel(x, 0, 0, "");
            x.tree();
            Tell.wheel(x, 0, 0, "sun 0 0;moon 0 1;rise 0 0;lot 0 0;house 12 11 0;");
            again(x);
        });
    }
}
