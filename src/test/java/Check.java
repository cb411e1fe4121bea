import java.util.function.LongSupplier;

/** Counts and prints the answers that are not the ones that are due. */
final class Check {
    private int wrong;

    void due(String call, long got, long want) {
        if (got != want) {
            complain(call + " answered " + got + ", due is " + want);
        }
    }

    void throwsDue(String call, LongSupplier made, Class<? extends RuntimeException> want) {
        try {
            complain(call + " answered " + made.getAsLong() + ", due is " + want.getSimpleName());
        } catch (RuntimeException e) {
            if (e.getClass() != want) {
                complain(call + " threw " + e.getClass().getSimpleName() + ", due is " + want.getSimpleName());
            }
        }
    }

    void isTrue(String what, boolean holds) {
        if (!holds) {
            complain(what);
        }
    }

    int wrong() {
        return wrong;
    }

    void complain(String text) {
        wrong++;
        if (wrong <= 40) {
            System.out.println(text);
        }
    }

    void end() {
        System.out.println(wrong == 0 ? "all answers are as due" : wrong + " answers are not as due");
        if (wrong != 0) {
            System.exit(1);
        }
    }
}
