import java.lang.reflect.InvocationTargetException;
import java.lang.reflect.Method;
import java.util.Arrays;
import java.util.HashMap;
import java.util.Map;

/** Counts the answers that are not the ones that are due, and ends a test with exit code 1 if there was one. */
final class Due {
    private static final Map<String, Method> METHODS = new HashMap<>();
    private static int wrong = 0;
    private static int asked = 0;

    static {
        for (Method method : FloeToFloe.class.getDeclaredMethods()) {
            METHODS.put(method.getName(), method);
        }
    }

    private Due() {
    }

    static void is(String call, long got, long want) {
        asked++;
        if (got != want) {
            wrong++;
            System.out.println(call + " answered " + got + ", due is " + want);
        }
    }

    static void isTrue(String what, boolean holds) {
        is(what, holds ? 1 : 0, 1);
    }

    /** A new object to which a text has been told and made a river. */
    static FloeToFloe river(String text) {
        FloeToFloe x = new FloeToFloe();
        tell(x, text);
        return x;
    }

    /** What river answers to a text. */
    static int tell(FloeToFloe x, String text) {
        for (int i = 0; i < text.length(); i++) {
            x.letter(text.charAt(i));
        }
        return x.river();
    }

    /** The row has these numbers then and no others. */
    static void row(FloeToFloe x, int... numbers) {
        x.clear();
        for (int number : numbers) {
            x.row(number);
        }
    }

    static int asked() {
        return asked;
    }

    static int parametersOf(String name) {
        return METHODS.get(name).getParameterCount();
    }

    /** Calls a method of the face by its name. */
    static int call(FloeToFloe x, String name, int... given) {
        Object[] boxed = Arrays.stream(given).boxed().toArray();
        try {
            return (int) METHODS.get(name).invoke(x, boxed);
        } catch (IllegalAccessException | InvocationTargetException e) {
            throw new IllegalStateException(name + Arrays.toString(given), e);
        }
    }

    static void end() {
        System.out.println(asked + " answers, " + wrong + " not as due");
        if (asked == 0 || wrong != 0) {
            System.exit(1);
        }
    }
}
