import java.util.Objects;
import java.util.function.LongSupplier;
import java.util.function.Supplier;

/** Counts the answers that are not as due, for the tests. */
final class Due {

    private int wrong = 0;
    private String part = "";

    void part(String name) {
        part = name;
    }

    void is(String what, Object want, Object got) {
        if (!Objects.equals(want, got)) {
            report(what + " answered " + got + ", due is " + want);
        }
    }

    void is(String what, long want, long got) {
        if (want != got) {
            report(what + " answered " + got + ", due is " + want);
        }
    }

    /** The call throws just this exception, and the object answers as before. */
    void throwsAndKeeps(String what, Class<?> want, Chipfield x, LongSupplier call) {
        long before = x.digest();
        is(what, want.getSimpleName(), outcome(call::getAsLong));
        is(what + " and what it changed", before, x.digest());
    }

    void throwsAndKeepsRow(String what, Class<?> want, Chipfield x, Supplier<String> call) {
        long before = x.digest();
        is(what, want.getSimpleName(), outcome(call));
        is(what + " and what it changed", before, x.digest());
    }

    static String outcome(Supplier<?> call) {
        try {
            return String.valueOf(call.get());
        } catch (RuntimeException e) {
            return e.getClass().getSimpleName();
        }
    }

    void report(String text) {
        wrong++;
        System.out.println(part + ": " + text);
    }

    void end() {
        if (wrong != 0) {
            System.out.println(wrong + " answers are not as due");
            System.exit(1);
        }
    }
}
