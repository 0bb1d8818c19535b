import java.lang.reflect.InvocationTargetException;
import java.lang.reflect.Method;
import java.util.ArrayList;
import java.util.List;
import java.util.NoSuchElementException;

/** Of each call that takes arguments, what is in bounds on a Full book, and what comes of an argument that is not. */
final class Bounds {
    static final char MISSING = 'M';
    static final char ILLEGAL = 'I';
    static final char FALSE = 'F';
    static final char FINE = ' ';

    private static final int LAST = 1000000;

    final String call;
    final int[] least;
    final int[] most;
    final char[] outside;

    private Bounds(String call, Object... triples) {
        this.call = call;
        int many = triples.length / 3;
        least = new int[many];
        most = new int[many];
        outside = new char[many];
        for (int i = 0; i < many; i++) {
            least[i] = (Integer) triples[3 * i];
            most[i] = (Integer) triples[3 * i + 1];
            outside[i] = (Character) triples[3 * i + 2];
        }
    }

    private static void add(List<Bounds> all, String call, Object... triples) {
        all.add(new Bounds(call, triples));
    }

    static List<Bounds> all() {
        List<Bounds> all = new ArrayList<>();
        char m = MISSING;
        add(all, "house", 0, 20, ILLEGAL);
        add(all, "wheel", 0, 5, m, 0, 19, m, 0, 20, ILLEGAL);
        add(all, "count", 0, 5, m);
        add(all, "place", 0, 3, m, 0, 6, m, 0, LAST, m);
        add(all, "entry", 0, 5, m, 0, 19, m, 0, 21, m);
        add(all, "cost", 0, 5, m, 0, 19, m, 0, 3, m, 0, LAST, m);
        add(all, "best", 0, 5, m, 0, 19, m, 0, 3, m, 0, LAST, m, 0, 50000, ILLEGAL);
        add(all, "day", -1, 19, m);
        add(all, "whose", 0, 5, m, 0, 19, m, 0, LAST, m, 0, 50000, ILLEGAL, 0, 2, m);
        add(all, "mixed", 0, 5, m, 0, 19, m, 0, LAST, m, 0, 50000, ILLEGAL);
        add(all, "climb", 0, 6, m, 0, 21599, m);
        add(all, "rise", 0, 6, m, 0, 21599, m, 0, 359, m);
        add(all, "middle", 0, 6, m, 0, 21599, m);
        add(all, "hour", 0, 5, m, 0, 19, m, -1, 6, m);
        add(all, "agree", 0, 5, m, 0, 19, m, 0, 2, m, 0, 6, FINE);
        add(all, "houseOf", 0, 359, m, 0, 2, m, 0, 6, FINE, 1, 12, m);
        add(all, "lot", 0, 5, m, 0, 19, m, 0, 1, m);
        add(all, "price", 0, 5, m, 0, 5, m);
        add(all, "seek", 0, 5, m, 0, 19, m, 0, 3, m, 0, LAST, m);
        add(all, "on", 0, 50000, ILLEGAL);
        add(all, "held", 0, 4, m);
        add(all, "misread", 0, 5, m, 0, 19, m, 0, 3, m, 0, LAST, m, 0, 6, m);
        add(all, "errors", 0, 5, m, 0, 19, m, 0, LAST, m, 0, 10, m);
        add(all, "possible", 0, 5, m, 0, 19, m, 0, 1, m);
        add(all, "slips", 0, 29, m, 0, 29, m);
        add(all, "handed", 0, 5, m, 0, 5, m, 0, 5, m);
        add(all, "leaf", 0, 5, m, 0, 19, m);
        add(all, "order", 0, 5, m, 0, 5, m, 0, 1, m);
        add(all, "same", 0, 119, m, 0, 119, m, 1, 7, m);
        add(all, "births", -1, 119, m, 1, 7, m);
        add(all, "whence", 0, 5, m);
        add(all, "life", 0, 19, m, 0, 120, FALSE, 0, 120, FALSE);
        add(all, "fate", 0, 19, m, 1, 12, FALSE);
        add(all, "fates", 0, 1, m);
        add(all, "hits", 0, 1, m, 0, 120, m);
        return all;
    }

    /** Arguments just outside, and as far outside as can be. */
    int[] wrongOf(int i) {
        return new int[] {least[i] - 1, most[i] + 1, Integer.MIN_VALUE, Integer.MAX_VALUE};
    }

    /** Of some wrong arguments NoSuchElementException comes first, then IllegalArgumentException, then false. */
    static char first(char a, char b) {
        String order = "MIF ";
        return order.indexOf(a) < order.indexOf(b) ? a : b;
    }

    String text(int[] args) {
        StringBuilder text = new StringBuilder(call).append('(');
        for (int i = 0; i < args.length; i++) {
            text.append(i == 0 ? "" : ", ").append(args[i]);
        }
        return text.append(')').toString();
    }

    /** What came of the call: an answer (of true and false FINE and FALSE), or one of the two exceptions. */
    char outcome(WheelBook x, int[] args) {
        Object[] boxed = new Object[args.length];
        Class<?>[] types = new Class<?>[args.length];
        for (int i = 0; i < args.length; i++) {
            boxed[i] = args[i];
            types[i] = int.class;
        }
        try {
            Method method = WheelBook.class.getDeclaredMethod(call, types);
            Object answer = method.invoke(x, boxed);
            return Boolean.FALSE.equals(answer) && method.getName().matches("life|fate") ? FALSE : FINE;
        } catch (InvocationTargetException e) {
            Class<?> thrown = e.getCause().getClass();
            return thrown == NoSuchElementException.class ? MISSING : thrown == IllegalArgumentException.class ? ILLEGAL : '?';
        } catch (ReflectiveOperationException e) {
            throw new IllegalStateException(e);
        }
    }
}
