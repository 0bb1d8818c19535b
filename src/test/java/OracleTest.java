import java.lang.reflect.InvocationTargetException;
import java.lang.reflect.Method;
import java.util.ArrayList;
import java.util.Comparator;
import java.util.HashMap;
import java.util.List;
import java.util.Map;
import java.util.Random;

/** Random runs of at most 512 calls, each answer beside that of PlainBook. The seeds are fixed. */
public final class OracleTest {
    private static final int RUNS = 60;
    private static final int CALLS = 512;

    /** Of each call its arguments' least and greatest, pair by pair. */
    private static final Map<String, int[]> RANGES = new HashMap<>();

    private final Random random;
    private final WheelBook book = new WheelBook();
    private final PlainBook plain = new PlainBook();
    private final List<Method> calls = new ArrayList<>();
    private final String run;
    private int made = 0;
    /** Few BOOKS and WHEELS, so that what was told is asked about. */
    private final int books;
    private final int wheels;

    private OracleTest(int seed) {
        random = new Random(seed);
        run = "run " + seed;
        books = 1 + random.nextInt(6);
        wheels = 1 + random.nextInt(random.nextBoolean() ? 3 : 20);
        for (Method method : WheelBook.class.getDeclaredMethods()) {
            if (RANGES.containsKey(method.getName())) {
                calls.add(method);
            }
        }
        calls.sort(Comparator.comparing(Method::getName));
    }

    public static void main(String[] args) {
        ranges();
        for (int seed = 0; seed < RUNS; seed++) {
            new OracleTest(seed).go();
        }
        Check.end("OracleTest");
    }

    private static void range(String call, int... pairs) {
        RANGES.put(call, pairs);
    }

    private static void ranges() {
        int last = 1000000;
        range("fault");
        range("count", 0, 5);
        range("place", 0, 3, 0, 6, 0, last);
        range("entry", 0, 5, 0, 19, 0, 21);
        range("cost", 0, 5, 0, 19, 0, 3, 0, last);
        range("best", 0, 5, 0, 19, 0, 3, 0, last, 0, 900);
        range("day", -1, 20);
        range("whose", 0, 5, 0, 19, 0, last, 0, 300, 0, 2);
        range("mixed", 0, 5, 0, 19, 0, last, 0, 900);
        range("climb", 0, 6, 0, 21599);
        range("rise", 0, 6, 0, 21599, 0, 359);
        range("middle", 0, 6, 0, 21599);
        range("hour", 0, 5, 0, 19, -1, 8);
        range("houseOf", 0, 359, 0, 2, 0, 6, 1, 12);
        range("agree", 0, 5, 0, 19, 0, 2, 0, 6);
        range("lot", 0, 5, 0, 19, 0, 1);
        range("price", 0, 5, 0, 5);
        range("seek", 0, 5, 0, 19, 0, 3, 0, last);
        range("on", 0, 500);
        range("held", 0, 4);
        range("image");
        range("restore");
        range("misread", 0, 5, 0, 19, 0, 3, 0, last, 0, 6);
        range("errors", 0, 5, 0, 19, 0, last, 0, 10);
        range("possible", 0, 5, 0, 19, 0, 1);
        range("slips", 0, 29, 0, 29);
        range("handed", 0, 5, 0, 5, 0, 5);
        range("leaf", 0, 5, 0, 19);
        range("order", 0, 5, 0, 5, 0, 1);
        range("same", 0, 119, 0, 119, 1, 7);
        range("births", -1, 119, 1, 7);
        range("tree");
        range("whence", 0, 5);
        range("life", 0, 19, 0, 120, 0, 120);
        range("fate", 0, 19, 1, 12);
        range("fates", 0, 1);
        range("hits", 0, 1, 0, 120);
    }

    private void go() {
        while (made < CALLS && Check.howManyWrong() < 20) {
            if (random.nextInt(made < 150 ? 2 : 12) == 0) {
                tellText();
            } else {
                ask(calls.get(random.nextInt(calls.size())));
            }
        }
    }

    private void compare(String call, long got, long due) {
        made++;
        Check.is(run + ", call " + made + ": " + call, got, due);
    }

    // ---- questions

    private void ask(Method call) {
        int[] pairs = RANGES.get(call.getName());
        Object[] args = new Object[pairs.length / 2];
        StringBuilder text = new StringBuilder(call.getName());
        for (int i = 0; i < args.length; i++) {
            args[i] = argument(call.getName(), i, pairs[2 * i], pairs[2 * i + 1]);
            text.append(' ').append(args[i]);
        }
        try {
            Method due = PlainBook.class.getDeclaredMethod(call.getName(), call.getParameterTypes());
            compare(text.toString(), answer(call, book, args), answer(due, plain, args));
        } catch (NoSuchMethodException e) {
            throw new IllegalStateException(e);
        }
    }

    private int argument(String call, int i, int least, int most) {
        if (random.nextInt(60) == 0) {
            int[] odd = {least - 1, most + 1, Integer.MIN_VALUE, Integer.MAX_VALUE, -1};
            return odd[random.nextInt(odd.length)];
        }
        if (random.nextInt(12) == 0) {
            return random.nextBoolean() ? least : most;
        }
        if (most == 5 && random.nextInt(5) > 0) {
            return random.nextInt(books);
        }
        if (most == 19 && random.nextInt(5) > 0) {
            return random.nextInt(wheels);
        }
        if (most == 119 && random.nextInt(5) > 0) {
            return 20 * random.nextInt(books) + random.nextInt(wheels);
        }
        if (most == 6 && least == 0 && random.nextInt(3) > 0) {
            return random.nextInt(2);
        }
        if (most == 7 || most == 120) {
            return least + random.nextInt(random.nextInt(most - least + 1) + 1);
        }
        return least + random.nextInt(most - least + 1);
    }

    private static long answer(Method call, Object on, Object[] args) {
        return Check.answer(() -> {
            try {
                Object answer = call.invoke(on, args);
                return answer == null ? 0 : answer instanceof Boolean b ? (b ? 1 : 0) : (Integer) answer;
            } catch (InvocationTargetException e) {
                if (e.getCause() instanceof RuntimeException cause) {
                    throw cause;
                }
                throw new IllegalStateException(e);
            } catch (IllegalAccessException e) {
                throw new IllegalStateException(e);
            }
        });
    }

    // ---- texts

    private void tellText() {
        boolean isHouse = random.nextInt(3) == 0;
        String text = spoiled(isHouse ? houseText() : wheelText());
        for (int at = 0; at < text.length(); at += 20) {
            int[] five = new int[5];
            for (int i = 0; i < 20; i++) {
                int b = at + i < text.length() ? text.charAt(at + i) : ' ';
                five[i / 4] = five[i / 4] << 8 | b & 255;
            }
            compare("feed", book.feed(five[0], five[1], five[2], five[3], five[4]),
                    plain.feed(five[0], five[1], five[2], five[3], five[4]));
        }
        int n = random.nextInt(40) == 0 ? random.nextInt(700) - 20 : text.length();
        if (isHouse) {
            compare("house " + text, Check.answer(() -> book.house(n)), Check.answer(() -> plain.house(n)));
        } else {
            int b = argument("wheel", 0, 0, 5);
            int w = argument("wheel", 1, 0, 19);
            compare("wheel " + b + " " + w + " " + text,
                    Check.answer(() -> book.wheel(b, w, n)), Check.answer(() -> plain.wheel(b, w, n)));
        }
        compare("fault of " + text, book.fault(), plain.fault());
    }

    private int upTo(int most) {
        return random.nextInt(8) == 0 ? most : random.nextInt(most + 1);
    }

    private String houseText() {
        StringBuilder text = new StringBuilder();
        int lines = 1 + random.nextInt(4);
        for (int i = 0; i < lines; i++) {
            int kind = random.nextInt(8);
            if (kind == 0) {
                text.append(climateLine());
            } else if (kind < 4) {
                text.append("hand ").append(upTo(12)).append(" for ").append(upTo(12)).append(";");
            } else {
                text.append("set ").append(upTo(3)).append(' ').append(PlainBook.NAMES.get(upTo(6)));
                text.append(" at ").append(random.nextInt(3) == 0 ? upTo(21599) : 60 * upTo(12));
                text.append(" goes ").append(random.nextInt(3) == 0 ? upTo(2000000) : 60000 * upTo(1));
                if (random.nextBoolean()) {
                    text.append(" swing ").append(upTo(random.nextBoolean() ? 10800 : 90));
                    text.append(" in ").append(2 + upTo(random.nextBoolean() ? 999998 : 50));
                }
                text.append(";");
            }
        }
        return text.toString();
    }

    private String climateLine() {
        StringBuilder text = new StringBuilder("climate ").append(plain.count(0));
        int left = 3600;
        for (int sign = 0; sign < 12; sign++) {
            int rising = sign == 11 ? left : 1 + random.nextInt(random.nextBoolean() ? 300 : left - (11 - sign));
            rising = Math.min(rising, left - (11 - sign));
            left -= rising;
            text.append(' ').append(rising);
        }
        return text.append(";").toString();
    }

    private String wheelText() {
        StringBuilder text = new StringBuilder();
        for (int entry = 0; entry < 22; entry++) {
            boolean often = entry < 2 || entry == 7 || entry == 8;
            if (random.nextInt(often ? 3 : 5) < (often ? 2 : 1)) {
                if (entry == 21) {
                    int month = upTo(12);
                    text.append("date ").append(month).append(' ').append(upTo(month == 12 ? 4 : 29)).append(";");
                } else {
                    text.append(entry > 8 ? "house " + (entry - 8) : PlainBook.NAMES.get(entry));
                    text.append(' ').append(upTo(random.nextBoolean() ? 11 : 2));
                    text.append(' ').append(upTo(random.nextBoolean() ? 29 : 5)).append(";");
                }
            }
        }
        return text.toString();
    }

    /** Now and then a byte is put in, taken out or changed, or a piece comes twice. */
    private String spoiled(String text) {
        if (random.nextInt(4) > 0 || text.isEmpty()) {
            return text;
        }
        String odd = " \n;0129azsx\t\u00e9\u0000A";
        int at = random.nextInt(text.length());
        char with = odd.charAt(random.nextInt(odd.length()));
        switch (random.nextInt(5)) {
            case 0:
                return text.substring(0, at);
            case 1:
                return text.substring(0, at) + text.substring(at + 1);
            case 2:
                return text.substring(0, at) + with + text.substring(at);
            case 3:
                return text.substring(0, at) + with + text.substring(at + 1);
            default:
                return text + text.substring(text.lastIndexOf(';', at) + 1);
        }
    }
}
