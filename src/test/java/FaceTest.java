import java.lang.reflect.Constructor;
import java.lang.reflect.Field;
import java.lang.reflect.Method;
import java.lang.reflect.Modifier;
import java.util.NoSuchElementException;
import java.util.TreeSet;

/** The document's face, whole, and nothing else that can be seen from outside. */
public final class FaceTest {
    private static final String DUE = "agree(4)I best(5)I births(2)I climb(2)I cost(4)I count(1)I day(1)I entry(3)I errors(4)I "
            + "fate(2)Z fates(1)I fault(0)I feed(5)I handed(3)I held(1)I hits(2)I hour(3)I house(1)I houseOf(4)I image(0)Z "
            + "leaf(2)I life(3)Z lot(3)I middle(2)I misread(5)I mixed(4)I on(1)I order(3)I place(3)I possible(3)I price(2)I "
            + "restore(0)Z rise(3)I same(3)Z seek(4)V slips(2)I tree(0)I wheel(3)I whence(1)I whose(5)I";

    public static void main(String[] args) {
        methods();
        fields();
        constructors();
        Check.end("FaceTest");
    }

    private static void methods() {
        TreeSet<String> seen = new TreeSet<>();
        TreeSet<String> names = new TreeSet<>();
        for (Method method : WheelBook.class.getDeclaredMethods()) {
            if (!Modifier.isPrivate(method.getModifiers())) {
                seen.add(method.getName() + "(" + method.getParameterCount() + ")" + kind(method.getReturnType()));
                names.add(method.getName());
                Check.is("public " + method, Modifier.isPublic(method.getModifiers()), true);
            }
        }
        Check.is("the face is " + seen, String.join(" ", seen).equals(DUE), true);
        for (Method method : WheelBook.class.getDeclaredMethods()) {
            if (Modifier.isPrivate(method.getModifiers())) {
                Check.is(method + " bears a name of the face", names.contains(method.getName()), false);
            } else {
                Check.is(method.getName() + " tells what it throws", thrown(method), thrownBy(method.getName()));
            }
        }
        for (Class<?> inside : WheelBook.class.getDeclaredClasses()) {
            Check.is(inside + " is static", Modifier.isStatic(inside.getModifiers()), true);
            for (Method method : inside.getDeclaredMethods()) {
                Check.is(method + " bears a name of the face", names.contains(method.getName()), false);
            }
        }
    }

    /** 1 for NoSuchElementException, 2 for IllegalArgumentException, 4 for any other. */
    private static int thrown(Method method) {
        int bits = 0;
        for (Class<?> type : method.getExceptionTypes()) {
            bits |= type == NoSuchElementException.class ? 1 : type == IllegalArgumentException.class ? 2 : 4;
        }
        return bits;
    }

    private static int thrownBy(String name) {
        switch (name) {
            case "feed", "fault", "image", "restore", "tree":
                return 0;
            case "house":
                return 2;
            case "wheel", "best", "whose", "mixed", "on":
                return 3;
            default:
                return 1;
        }
    }

    private static String kind(Class<?> type) {
        return type == int.class ? "I" : type == boolean.class ? "Z" : type == void.class ? "V" : "?";
    }

    private static void fields() {
        int seen = 0;
        for (Field field : WheelBook.class.getDeclaredFields()) {
            if (!Modifier.isPrivate(field.getModifiers())) {
                seen++;
                Check.is(field + " is NONE", field.getName().equals("NONE"), true);
            }
        }
        Check.is("one constant", seen, 1);
        Check.is("NONE", WheelBook.NONE, -1);
    }

    private static void constructors() {
        Constructor<?>[] all = WheelBook.class.getDeclaredConstructors();
        Check.is("one constructor", all.length, 1);
        Check.is("public", Modifier.isPublic(all[0].getModifiers()), true);
        Check.is("final", Modifier.isFinal(WheelBook.class.getModifiers()), true);
    }
}
