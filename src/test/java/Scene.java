import java.util.Arrays;
import java.util.function.LongSupplier;

/** Objects that are loaded with a text, and calls of which the whole effect is looked at. */
final class Scene {
    private final Check check;

    Scene(Check check) {
        this.check = check;
    }

    static void type(ClaimedTasks x, String text) {
        for (char c : text.toCharArray()) {
            x.append(c);
        }
    }

    static ClaimedTasks typed(String text) {
        ClaimedTasks x = new ClaimedTasks();
        type(x, text);
        return x;
    }

    static ClaimedTasks loaded(String text) {
        ClaimedTasks x = typed(text);
        x.load();
        return x;
    }

    /** All numbers that can be asked of the state, in 304 calls at most. */
    static int[] allOf(ClaimedTasks x) {
        int[] all = new int[8 + 6 * 8 + 8 * 7 + 48 * 4];
        int n = 0;
        for (int what = 0; what <= 7; what++) {
            all[n++] = x.about(what);
        }
        int agents = all[0];
        int tasks = all[1];
        for (int a = 0; a < agents; a++) {
            for (int what = 0; what <= 7; what++) {
                all[n++] = x.agent(a, what);
            }
            for (int t = 0; t < tasks; t++) {
                for (int what = 0; what <= 3; what++) {
                    all[n++] = x.note(a, t, what);
                }
            }
        }
        for (int t = 0; t < tasks; t++) {
            for (int what = 0; what <= 6; what++) {
                all[n++] = x.task(t, what);
            }
        }
        return Arrays.copyOf(all, n);
    }

    /** The numbers of the whole: few, as the document promises nothing after 512 calls. */
    private static int[] outline(ClaimedTasks x) {
        int[] all = new int[6];
        for (int i = 0; i < all.length; i++) {
            all[i] = x.about(i + 2);
        }
        return all;
    }

    /** The call throws what is due, and the outline of the state stays; Boundary looks at all of it. */
    void refused(ClaimedTasks x, String call, LongSupplier made, Class<? extends RuntimeException> want) {
        int[] before = outline(x);
        check.throwsDue(call, made, want);
        check.isTrue(call + " changed the state though it threw", Arrays.equals(before, outline(x)));
    }

    /** The call answers what is due, and the outline of the state stays; Boundary looks at all of it. */
    void asked(ClaimedTasks x, String call, LongSupplier made, long want) {
        int[] before = outline(x);
        check.due(call, made.getAsLong(), want);
        check.isTrue(call + " changed the state", Arrays.equals(before, outline(x)));
    }

    /** The seed with which the first round has this r: the step of x taken backwards. */
    static long seedFor(long r) {
        long factor = 6364136223846793005L;
        long inverse = factor;
        for (int i = 0; i < 6; i++) {
            inverse *= 2 - factor * inverse;
        }
        return ((r << 33) - 1442695040888963407L) * inverse;
    }
}
