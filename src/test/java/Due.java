import java.util.NoSuchElementException;
import java.util.function.BooleanSupplier;
import java.util.function.LongSupplier;

/** Counts the answers of one test that are not due, prints them, and ends the test. */
final class Due {
    private final String test;
    private int asked = 0;
    private int wrong = 0;

    Due(String test) {
        this.test = test;
    }

    /** An answer as a text, or the exception behind "throws.", as the issues write it. */
    static String outcome(LongSupplier call) {
        try {
            return Long.toString(call.getAsLong());
        } catch (RuntimeException e) {
            return thrown(e.getClass());
        }
    }

    static String thrown(Class<?> exception) {
        return "throws." + exception.getSimpleName();
    }

    void same(String call, String got, String want) {
        asked++;
        if (!got.equals(want)) {
            wrong++;
            System.out.println(test + ": " + call + " answered " + got + ", due is " + want);
        }
    }

    void number(String call, long want, LongSupplier got) {
        same(call, outcome(got), Long.toString(want));
    }

    void truth(String call, boolean want, BooleanSupplier got) {
        number(call, want ? 1 : 0, () -> got.getAsBoolean() ? 1 : 0);
    }

    void noSlot(String call, LongSupplier got) {
        same(call, outcome(got), thrown(IndexOutOfBoundsException.class));
    }

    void empty(String call, LongSupplier got) {
        same(call, outcome(got), thrown(NoSuchElementException.class));
    }

    void noSecret(String call, LongSupplier got) {
        same(call, outcome(got), thrown(IllegalStateException.class));
    }

    void notFit(String call, LongSupplier got) {
        same(call, outcome(got), thrown(IllegalArgumentException.class));
    }

    void notDone(String call, LongSupplier got) {
        same(call, outcome(got), thrown(UnsupportedOperationException.class));
    }

    void end() {
        System.out.println(test + ": " + asked + " answers, " + wrong + " wrong");
        if (wrong != 0 || asked == 0) {
            System.exit(1);
        }
    }
}
