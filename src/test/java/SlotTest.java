import java.util.Arrays;

/** Promises 29 and 30: save and restore. */
public final class SlotTest {
    private static final Check CHECK = new Check();
    private static final Scene SCENE = new Scene(CHECK);
    private static final Class<IndexOutOfBoundsException> INDEX = IndexOutOfBoundsException.class;
    private static final Class<IllegalStateException> STATE = IllegalStateException.class;
    private static final String TWO = "C05a000022a030022t01005";

    public static void main(String[] args) {
        saveAndRestore();
        twoSlots();
        remembered();
        wrongInputs();
        newObjects();
        CHECK.end();
    }

    private static void saveAndRestore() {
        ClaimedTasks x = Scene.loaded(TWO);
        x.step(2);
        x.toggle(1);
        x.setLifetime(9);
        x.setRange(0, 3);
        int[] saved = Scene.allOf(x);
        SCENE.asked(x, "save", () -> x.save(0), 2);
        for (int i = 0; i < 2; i++) {
            x.toggle(0);
            x.toggle(1);
            x.setLifetime(2);
            x.setRange(0, 5);
            x.put(0, 9, 9);
            x.drop(0);
            x.step(20 + i);
            CHECK.due("restore", x.restore(0), 2);
            CHECK.isTrue("restore brings all back", Arrays.equals(saved, Scene.allOf(x)));
        }
    }

    private static void twoSlots() {
        ClaimedTasks x = Scene.loaded(TWO);
        x.step(1);
        CHECK.due("save 1", x.save(1), 1);
        SCENE.refused(x, "restore of the other one", () -> x.restore(0), STATE);
        x.step(3);
        CHECK.due("save 0", x.save(0), 4);
        CHECK.due("restore 1", x.restore(1), 1);
        CHECK.due("restore 0", x.restore(0), 4);
        CHECK.due("progress of 0", x.task(0, 3), 3);
        x.step(1);
        CHECK.due("save 1 over", x.save(1), 5);
        CHECK.due("restore 0 again", x.restore(0), 4);
        CHECK.due("restore 1 again", x.restore(1), 5);
    }

    private static void remembered() {
        ClaimedTasks x = Scene.loaded(TWO);
        x.step(1);
        x.step(1);
        x.save(0);
        CHECK.due("save keeps what is remembered, and is no action", x.undo(), 1);
        x.append('x');
        CHECK.due("restore", x.restore(0), 2);
        SCENE.refused(x, "undo after restore", () -> x.undo(), STATE);
        CHECK.due("the text is not part of the state", x.clearText(), 24);
        x.step(1);
        CHECK.due("undo goes back to what was restored", x.undo(), 0);
        CHECK.due("its clock", x.about(2), 2);
        // The state in the slot is a copy.
        x.step(9);
        CHECK.due("the slot did not go on", x.restore(0), 2);
    }

    private static void wrongInputs() {
        ClaimedTasks x = Scene.loaded(TWO);
        x.step(1);
        for (int bad : new int[] {-1, 2, Integer.MIN_VALUE, Integer.MAX_VALUE}) {
            SCENE.refused(x, "save " + bad, () -> x.save(bad), INDEX);
            SCENE.refused(x, "restore " + bad, () -> x.restore(bad), INDEX);
        }
        SCENE.refused(x, "restore of nothing", () -> x.restore(0), STATE);
        SCENE.refused(x, "restore of nothing", () -> x.restore(1), STATE);
        CHECK.due("a restore that throws forgets nothing", x.undo(), 0);
        x.save(0);
        x.load();
        SCENE.refused(x, "restore of what was before load", () -> x.restore(0), STATE);
        x.save(0);
        CHECK.due("restore of what was saved since", x.restore(0), 0);
    }

    private static void newObjects() {
        ClaimedTasks x = new ClaimedTasks();
        CHECK.due("save of nobody", x.save(0), 0);
        x.step(5);
        CHECK.due("restore of nobody", x.restore(0), 0);
        ClaimedTasks y = new ClaimedTasks();
        CHECK.throwsDue("slots are not shared", () -> y.restore(0), STATE);
    }
}
