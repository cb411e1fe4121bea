import java.util.ArrayList;
import java.util.List;
import java.util.function.Supplier;
import java.util.function.ToIntFunction;

/**
 * Everything that calls can tell of an object: its state, the states that it remembers, its save
 * slots and its text. Most looks change the object, and the document promises nothing after 512
 * calls: each look takes an object of its own, so there has to be a maker of equal ones.
 */
final class Whole {
    private static final int NOTHING = Integer.MIN_VALUE;
    private static final int MORE_THAN_ARE_REMEMBERED = 16;

    private final Supplier<ClaimedTasks> maker;
    private final List<Integer> all = new ArrayList<>();

    private Whole(Supplier<ClaimedTasks> maker) {
        this.maker = maker;
    }

    static List<Integer> of(Supplier<ClaimedTasks> maker) {
        Whole whole = new Whole(maker);
        whole.look(x -> 0);
        whole.look(x -> x.restore(0));
        whole.look(x -> x.restore(1));
        for (int n = 1; n <= MORE_THAN_ARE_REMEMBERED; n++) {
            int times = n;
            whole.look(x -> undo(x, times));
        }
        whole.look(ClaimedTasks::errorPosition);
        whole.look(ClaimedTasks::load);
        whole.look(ClaimedTasks::clearText);
        whole.look(Whole::typeOneMore);
        return whole.all;
    }

    /** The state after a call that may not be allowed. */
    private void look(ToIntFunction<ClaimedTasks> call) {
        ClaimedTasks x = maker.get();
        try {
            all.add(call.applyAsInt(x));
        } catch (IllegalStateException e) {
            all.add(NOTHING);
            return;
        }
        for (int number : Scene.allOf(x)) {
            all.add(number);
        }
    }

    private static int undo(ClaimedTasks x, int times) {
        int left = 0;
        for (int i = 0; i < times; i++) {
            left = x.undo();
        }
        return left;
    }

    private static int typeOneMore(ClaimedTasks x) {
        int length = x.append('a');
        return 1000 * length + x.errorPosition();
    }
}
