import java.lang.reflect.InvocationTargetException;
import java.lang.reflect.Method;

/** Calls by name, on the program or on what stands beside it, and looks at all that calls can show. */
final class Calls {

    private static final int NONE = -1;

    private Calls() {
    }

    /** The answer as a text, or the name of the exception's class. */
    static String outcome(Object on, String name, Object... given) {
        try {
            return String.valueOf(methodOf(on.getClass(), name).invoke(on, given));
        } catch (InvocationTargetException e) {
            return e.getCause().getClass().getName();
        } catch (IllegalAccessException e) {
            throw new IllegalStateException(e);
        }
    }

    private static Method methodOf(Class<?> type, String name) {
        for (Method method : type.getDeclaredMethods()) {
            if (method.getName().equals(name)) {
                return method;
            }
        }
        throw new IllegalStateException(name);
    }

    /** An object in whose state much has come together; two ERASED places and two SPARES are left. */
    static Chipfield busy() {
        Chipfield x = new Chipfield();
        x.write(0, 1);
        x.write(5, 123456789L);
        x.write(15, (1L << 44) - 1);
        x.limit(3);
        x.replace(13);
        x.ray(9, 5, 4);
        x.fetch(5);
        x.stick(11, 3, 7, 2);
        x.stick(16, 4, 15, 3);
        x.stick(2, 6, 8, 8);
        x.mad(2, 5);
        x.mad(17, 0);
        x.erase(6, true);
        x.erase(2, true);
        x.patrol(3);
        x.store(2, 77);
        x.load(0);
        x.store(9, 5);
        x.load(5);
        x.ray(17, 1, 9);
        x.ray(0, 7, 1);
        x.ray(1, 7, 2);
        x.ray(3, 7, 3);
        x.load(7);
        x.call();
        return x;
    }

    /**
     * What later calls show of an object (and change in it): two that look alike here differ in
     * nothing that the tests ask for.
     */
    static String look(Chipfield x) {
        StringBuilder text = new StringBuilder();
        lookAtLines(x, text);
        for (int chip = 0; chip < 18; chip++) {
            text.append(x.mad(chip, NONE)).append(' ');
        }
        lookAtLines(x, text);
        // A use shows how many there were, a STEP where the PATROL is, a FETCH what the LIMIT is.
        int frame = x.store(14, 8);
        text.append(frame).append(' ').append(x.ofFrame(frame, 2)).append(' ').append(x.load(12));
        text.append(' ').append(x.patrol(2)).append(' ').append(x.fetch(3)).append(' ').append(x.call());
        for (int place = 0; place < 4; place++) {
            text.append(' ').append(outcome(x, "replace", place));
        }
        text.append(' ').append(x.flush()).append('\n');
        lookAtLines(x, text);
        return text.toString();
    }

    private static void lookAtLines(Chipfield x, StringBuilder text) {
        text.append(x.digest()).append('\n');
        for (int line = 0; line < 16; line++) {
            text.append(x.row(line)).append(' ').append(x.sum(line, 1)).append(' ').append(x.sum(line, 2)).append('\n');
        }
    }
}
