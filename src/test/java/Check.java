import java.util.function.LongSupplier;

/** Counts and prints the answers that are not the ones that are due. */
final class Check {
    private static final int MOST_SECONDS = 180;

    private int wrong;

    /** A class that does not end where it should must not keep the tests waiting for ever. */
    Check() {
        Thread watch = new Thread(Check::endTooLongTest);
        watch.setDaemon(true);
        watch.start();
    }

    private static void endTooLongTest() {
        try {
            Thread.sleep(1000L * MOST_SECONDS);
        } catch (InterruptedException e) {
            return;
        }
        System.out.println("not ended after " + MOST_SECONDS + " seconds");
        Runtime.getRuntime().halt(1);
    }

    void due(String call, long got, long want) {
        if (got != want) {
            complain(call + " answered " + got + ", due is " + want);
        }
    }

    void throwsDue(String call, LongSupplier made, Class<? extends RuntimeException> want) {
        try {
            complain(call + " answered " + made.getAsLong() + ", due is " + want.getSimpleName());
        } catch (RuntimeException e) {
            if (e.getClass() != want) {
                complain(call + " threw " + e.getClass().getSimpleName() + ", due is " + want.getSimpleName());
            }
        }
    }

    void isTrue(String what, boolean holds) {
        if (!holds) {
            complain(what);
        }
    }

    int wrong() {
        return wrong;
    }

    void complain(String text) {
        wrong++;
        if (wrong <= 40) {
            System.out.println(text);
        }
    }

    void end() {
        System.out.println(wrong == 0 ? "all answers are as due" : wrong + " answers are not as due");
        if (wrong != 0) {
            System.exit(1);
        }
    }
}
