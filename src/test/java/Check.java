import java.util.NoSuchElementException;
import java.util.function.LongSupplier;

/** Answers beside those that are due; a boolean counts 1 or 0. */
final class Check {
    private static int wrong = 0;
    private static int looked = 0;
    private static String sentence = "";

    private Check() {
    }

    interface Call {
        void run();
    }

    /** What follows looks at this sentence of the document; its words come with every wrong answer. */
    static void sentence(String words) {
        sentence = " (by '" + words + "')";
    }

    static void is(String what, long got, long due) {
        looked++;
        if (got != due) {
            wrong++;
            System.out.println(what + " answered " + got + ", due is " + due + sentence);
        }
    }

    static void is(String what, boolean got, boolean due) {
        is(what, got ? 1 : 0, due ? 1 : 0);
    }

    static void missing(String what, Call call) {
        refused(what, call, NoSuchElementException.class);
    }

    static void illegal(String what, Call call) {
        refused(what, call, IllegalArgumentException.class);
    }

    private static void refused(String what, Call call, Class<?> due) {
        looked++;
        String got = "nothing";
        try {
            call.run();
        } catch (RuntimeException e) {
            got = e.getClass().getName();
        }
        if (!got.equals(due.getName())) {
            wrong++;
            System.out.println(what + " threw " + got + ", due is " + due.getName() + sentence);
        }
    }

    /** An answer, or a number for the exception in its place, so that two programs can be laid side by side. */
    static long answer(LongSupplier call) {
        try {
            return call.getAsLong();
        } catch (NoSuchElementException e) {
            return Long.MIN_VALUE;
        } catch (IllegalArgumentException e) {
            return Long.MIN_VALUE + 1;
        }
    }

    static int howManyWrong() {
        return wrong;
    }

    static void end(String name) {
        System.out.println(name + ": " + looked + " looked at, " + wrong + " wrong");
        if (wrong != 0) {
            System.exit(1);
        }
    }
}
