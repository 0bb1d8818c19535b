/** Each argument of each call at the last value on either side of its bounds: what the promise says comes of it. */
public final class BoundsTest {

    public static void main(String[] args) {
        int calls = 0;
        for (Bounds bounds : Bounds.all()) {
            inBounds(bounds);
            oneOutside(bounds);
            twoOutside(bounds);
            calls++;
        }
        Check.is("calls that take bounded arguments", calls, 35);
        climatesOfTwoWays();
        climatesAsTold();
        spans();
        nothingBegun();
        lastCall();
        Check.end("BoundsTest");
    }

    private static void look(Bounds bounds, int[] args, char due) {
        char got = bounds.outcome(Full.book(), args);
        Check.is(bounds.text(args) + " ends " + got + ", due is " + due, got == due, true);
    }

    private static void inBounds(Bounds bounds) {
        look(bounds, bounds.least.clone(), Bounds.FINE);
        for (int i = 0; i < bounds.most.length; i++) {
            int[] args = bounds.least.clone();
            args[i] = bounds.most[i];
            look(bounds, args, Bounds.FINE);
        }
    }

    private static void oneOutside(Bounds bounds) {
        for (int i = 0; i < bounds.most.length; i++) {
            for (int wrong : bounds.wrongOf(i)) {
                int[] args = bounds.least.clone();
                args[i] = wrong;
                look(bounds, args, bounds.outside[i]);
            }
        }
    }

    private static void twoOutside(Bounds bounds) {
        for (int i = 0; i < bounds.most.length; i++) {
            for (int j = 0; j < i; j++) {
                int[] args = bounds.least.clone();
                args[i] = bounds.most[i] + 1;
                args[j] = bounds.least[j] - 1;
                look(bounds, args, Bounds.first(bounds.outside[i], bounds.outside[j]));
            }
        }
    }

    private static void climatesOfTwoWays() {
        Check.sentence("of WAY 2 no such CLIMATE");
        WheelBook x = Full.book();
        Check.is("18: CLIMATE 6", x.houseOf(0, 2, 6, 1), 0);
        Check.is("19: CLIMATE 6", x.agree(0, 0, 2, 6) >= 0, true);
        for (int climate : new int[] {-1, 7, Integer.MIN_VALUE, Integer.MAX_VALUE}) {
            Check.missing("18: WAY 2, CLIMATE " + climate, () -> x.houseOf(0, 2, climate, 1));
            Check.missing("19: WAY 2, CLIMATE " + climate, () -> x.agree(0, 0, 2, climate));
            Check.is("18: WAY 1, CLIMATE " + climate, x.houseOf(0, 1, climate, 1), 0);
            Check.is("19: WAY 0, CLIMATE " + climate, x.agree(0, 0, 0, climate) >= 0, true);
        }
    }

    private static void climatesAsTold() {
        Check.sentence("CLIMATES 0 to 6 (at most so many are told)");
        WheelBook x = new WheelBook();
        for (int many = 0; many < 7; many++) {
            int next = many;
            Check.missing("14: CLIMATE " + next, () -> x.climb(next, 0));
            Check.missing("18: CLIMATE " + next, () -> x.houseOf(0, 2, next, 1));
            Check.missing("19: CLIMATE " + next, () -> x.agree(0, 0, 2, next));
            Tell.house(x, "climate " + many + Tell.LEVEL.substring(9));
            Check.is("14: CLIMATE " + next, x.climb(next, 1), 300);
            Check.is("18: CLIMATE " + next, x.houseOf(0, 2, next, 10), 270);
            Check.is("19: CLIMATE " + next, x.agree(0, 0, 2, next), -1);
        }
    }

    private static void spans() {
        Check.sentence("further is not 0 to 50,000, or comes to no DAY");
        int[][] fine = {{950000, 50000}, {999999, 1}, {1000000, 0}, {0, 0}};
        int[][] wrong = {{950001, 50000}, {999999, 2}, {1000000, 1}, {1000000, 50000}, {1000000, Integer.MAX_VALUE}, {0, 50001}, {5, -1}};
        WheelBook x = Full.book();
        for (int[] span : fine) {
            Check.is("10: best", x.best(0, 1, 0, span[0], span[1]), 0);
            Check.is("12: whose", x.whose(0, 1, span[0], span[1], 1), 0);
            Check.is("13: mixed", x.mixed(0, 1, span[0], span[1]), 0);
        }
        for (int[] span : wrong) {
            Check.illegal("10: best", () -> x.best(0, 1, 0, span[0], span[1]));
            Check.illegal("12: whose", () -> x.whose(0, 1, span[0], span[1], 1));
            Check.illegal("13: mixed", () -> x.mixed(0, 1, span[0], span[1]));
        }
    }

    private static void nothingBegun() {
        Check.sentence("Nothing is told.");
        for (Bounds bounds : Bounds.all()) {
            boolean needsMore = bounds.call.matches("climb|rise|middle|day|on|held|slips|whence");
            char due = needsMore ? Bounds.MISSING : Bounds.FINE;
            char got = bounds.outcome(new WheelBook(), bounds.least.clone());
            Check.is("1: " + bounds.text(bounds.least) + " of nothing ends " + got + ", due is " + due, got == due, true);
        }
    }

    private static void lastCall() {
        Check.sentence("An object is used for at most 512 calls after it has been made");
        WheelBook x = new WheelBook();
        for (int call = 1; call < 511; call += 2) {
            Check.is("2: call " + call, x.feed(0x73756e20, 0x3020303b, 0x20202020, 0x20202020, 0x20202020), 20);
            Check.is("4: call " + (call + 1), x.wheel(call / 2 % 6, call / 2 % 20, 8), 0);
        }
        Check.is("6: call 511", x.count(2), 60);
        Check.is("35: call 512", x.births(-1, 1), 1);
    }
}
