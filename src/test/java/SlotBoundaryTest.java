import java.util.Arrays;

/** Boundary cases of promises 29 and 30: save and restore. */
public final class SlotBoundaryTest extends Boundary {
    public static void main(String[] args) {
        runAll(SlotBoundaryTest.class);
    }

    private static String told(ClaimedTasks x) {
        return Arrays.toString(Scene.allOf(x));
    }

    /** Changes every part of the state. */
    private static void changeAll(ClaimedTasks x) {
        x.step(9);
        x.toggle(0);
        x.setRange(0, 1);
        x.put(0, 6, 6);
        x.drop(0);
        x.setLifetime(13);
    }

    // ---- promise 29

    @Sentence(promise = 29, value = "Stores the present state in a slot.")
    static void theStoredStateIsACopy() {
        for (int slot = 0; slot <= 1; slot++) {
            ClaimedTasks x = Scene.loaded(TWO);
            x.step(2);
            String saved = told(x);
            x.save(slot);
            same("the state after save", told(x), saved);
            changeAll(x);
            x.restore(slot);
            same("the state after restore", told(x), saved);
        }
        // A state that is full, and one that is empty.
        same("the full state", told(restoredFull()), told(Boundary.full()));
        ClaimedTasks z = new ClaimedTasks();
        z.save(1);
        z.step(5);
        due("the empty state", z.restore(1), 0);
    }

    private static ClaimedTasks restoredFull() {
        ClaimedTasks x = Boundary.full();
        x.save(0);
        x.step(99);
        x.restore(0);
        return x;
    }

    @Sentence(promise = 29, value = "Stores the present state in a slot.")
    static void theNewerStateReplacesTheOlder() {
        ClaimedTasks x = Scene.loaded(TWO);
        for (int n = 0; n < 3; n++) {
            due("save", x.save(0), n);
            x.step(1);
        }
        due("restore", x.restore(0), 2);
        refused("the other slot is empty", () -> {
            ClaimedTasks y = Scene.loaded(TWO);
            y.save(0);
            y.save(0);
            return y;
        }, y -> y.restore(1), STATE);
    }

    @Sentence(promise = 29, value = "`slot`: 0 or 1")
    static void twoSlots() {
        ClaimedTasks x = Scene.loaded(TWO);
        x.step(1);
        due("save 0", x.save(0), 1);
        x.step(2);
        due("save 1", x.save(1), 3);
        x.step(4);
        due("restore 0", x.restore(0), 1);
        due("restore 1", x.restore(1), 3);
        due("save is no action, and forgets nothing", savedAfter14().undo(), 13);
    }

    private static ClaimedTasks savedAfter14() {
        ClaimedTasks x = Boundary.full();
        x.save(0);
        x.save(1);
        return x;
    }

    @Sentence(promise = 29, value = "Returns the clock.")
    static void theClockOfSave() {
        due("0", new ClaimedTasks().save(0), 0);
        ClaimedTasks x = Scene.loaded("C05");
        for (int n = 1; n <= 5; n++) {
            x.step(99);
            due("save", x.save(n % 2), 99 * n);
        }
    }

    @Sentence(promise = 29, value = "Throws `IndexOutOfBoundsException` if there is no such slot")
    static void saveInNoSlot() {
        for (int bad : outside(0, 1)) {
            refused("save(" + bad + ")", Boundary::busy, x -> x.save(bad), INDEX);
            refused("save(" + bad + ") with 14 remembered", Boundary::full, x -> x.save(bad), INDEX);
            refused("save(" + bad + ") of a new object", ClaimedTasks::new, x -> x.save(bad), INDEX);
        }
    }

    // ---- promise 30

    @Sentence(promise = 30, value = "Replaces the state by the one in a slot, and forgets all remembered states.")
    static void restoreForgets() {
        for (int slot = 0; slot <= 1; slot++) {
            int s = slot;
            refused("undo after restore of some", () -> restored(Boundary.busy(), s), ClaimedTasks::undo, STATE);
            refused("undo after restore of 14", () -> restored(Boundary.full(), s), ClaimedTasks::undo, STATE);
        }
        // From then on 14 states are remembered again, back to the one that was restored.
        ClaimedTasks x = restored(Boundary.full(), 0);
        for (int i = 0; i < 15; i++) {
            x.step(1);
        }
        for (int left = 13; left >= 0; left--) {
            due("undo", x.undo(), left);
        }
        due("clock", x.about(2), 7);
    }

    private static ClaimedTasks restored(ClaimedTasks x, int slot) {
        x.restore(slot);
        return x;
    }

    @Sentence(promise = 30, value = "`slot`: 0 or 1")
    static void eitherSlot() {
        due("slot 0", Boundary.busy().restore(0), 2);
        due("slot 1", Boundary.busy().restore(1), 2);
        due("the range in slot 0", restored(Boundary.busy(), 0).agent(1, 2), 22);
        due("the range in slot 1", restored(Boundary.busy(), 1).agent(1, 2), 7);
        same("the text and the slots after restore", Whole.of(() -> restored(restored(Boundary.busy(), 0), 1)),
                Whole.of(() -> restored(Boundary.busy(), 1)));
    }

    @Sentence(promise = 30, value = "The slot keeps its state.")
    static void restoredAgainAndAgain() {
        ClaimedTasks x = Scene.loaded(TWO);
        x.step(2);
        x.save(1);
        String saved = told(x);
        for (int n = 0; n < 4; n++) {
            changeAll(x);
            due("restore", x.restore(1), 2);
            same("the state", told(x), saved);
        }
    }

    @Sentence(promise = 30, value = "Returns the clock then.")
    static void theClockOfRestore() {
        ClaimedTasks x = new ClaimedTasks();
        x.save(0);
        x.step(99);
        x.save(1);
        x.step(99);
        due("restore 1", x.restore(1), 99);
        due("clock", x.about(2), 99);
        due("restore 0", x.restore(0), 0);
        due("clock", x.about(2), 0);
        due("forwards again", x.restore(1), 99);
    }

    @Sentence(promise = 30, value = "Throws `IndexOutOfBoundsException` if there is no such slot")
    static void restoreOfNoSlot() {
        for (int bad : outside(0, 1)) {
            refused("restore(" + bad + ")", Boundary::busy, x -> x.restore(bad), INDEX);
            refused("restore(" + bad + ") with 14 remembered", Boundary::full, x -> x.restore(bad), INDEX);
            refused("restore(" + bad + ") of a new object, the index first", ClaimedTasks::new,
                    x -> x.restore(bad), INDEX);
        }
    }

    @Sentence(promise = 30, value = "Throws `IllegalStateException` if nothing has been saved in the slot,")
    static void restoreOfNothing() {
        for (int slot = 0; slot <= 1; slot++) {
            int s = slot;
            refused("restore of a new object", ClaimedTasks::new, x -> x.restore(s), STATE);
            refused("restore of a loaded one", () -> steppedOnce(Scene.loaded(TWO)), x -> x.restore(s), STATE);
            refused("restore of the other slot", () -> {
                ClaimedTasks x = steppedOnce(Scene.loaded(TWO));
                x.save(1 - s);
                return x;
            }, x -> x.restore(s), STATE);
        }
    }

    private static ClaimedTasks steppedOnce(ClaimedTasks x) {
        x.step(1);
        return x;
    }

    @Sentence(promise = 30, value = "or not since the last load()")
    static void restoreOfWhatWasBeforeLoad() {
        for (int slot = 0; slot <= 1; slot++) {
            int s = slot;
            refused("restore after load", () -> savedAndLoaded("C05a000000"), x -> x.restore(s), STATE);
            // A load that is refused empties no slot.
            ClaimedTasks x = Scene.loaded(TWO);
            x.step(3);
            x.save(slot);
            x.append('x');
            try {
                x.load();
                due("load of a wrong text is refused", 0, 1);
            } catch (IllegalStateException e) {
                due("restore after a load that was refused", x.restore(slot), 3);
            }
            // What is saved after the load can be restored.
            ClaimedTasks y = savedAndLoaded("C05a000000");
            y.step(1);
            y.save(slot);
            y.step(1);
            due("restore of what was saved since", y.restore(slot), 1);
            refused("the other slot is empty still", () -> {
                ClaimedTasks z = savedAndLoaded("C05a000000");
                z.save(s);
                return z;
            }, z -> z.restore(1 - s), STATE);
        }
    }

    private static ClaimedTasks savedAndLoaded(String text) {
        ClaimedTasks x = Scene.typed(text);
        x.load();
        x.step(2);
        x.save(0);
        x.save(1);
        x.load();
        return x;
    }
}
