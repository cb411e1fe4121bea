import java.util.Arrays;
import java.util.LinkedHashMap;
import java.util.List;
import java.util.Map;
import java.util.function.Supplier;
import java.util.function.ToIntFunction;

/** Boundary cases of the document's section ACTIONS AND UNDO, and of promises 11 to 17. */
public final class ActionBoundaryTest extends Boundary {
    public static void main(String[] args) {
        runAll(ActionBoundaryTest.class);
    }

    /** Agent 0 has the task, agent 1 hears it; nothing is remembered. */
    private static ClaimedTasks settled() {
        ClaimedTasks x = Scene.loaded(TWO);
        x.step(2);
        x.save(0);
        x.restore(0);
        return x;
    }

    /** An action of each kind that makes something different. */
    private static Map<String, ToIntFunction<ClaimedTasks>> actions() {
        Map<String, ToIntFunction<ClaimedTasks>> all = new LinkedHashMap<>();
        all.put("step", x -> x.step(3));
        all.put("setRange", x -> x.setRange(1, 5));
        all.put("put", x -> x.put(1, 9, 9));
        all.put("toggle", x -> x.toggle(1));
        all.put("handOver", x -> x.handOver(0, 1));
        all.put("drop", x -> x.drop(0));
        all.put("setLifetime", x -> x.setLifetime(20));
        return all;
    }

    /** An action of each kind after which nothing is different. */
    private static Map<String, ToIntFunction<ClaimedTasks>> idleActions() {
        Map<String, ToIntFunction<ClaimedTasks>> all = new LinkedHashMap<>();
        all.put("setRange to the same", x -> x.setRange(0, 22));
        all.put("put at the same place", x -> x.put(0, 1, 0));
        all.put("drop of nothing", x -> x.drop(1));
        all.put("setLifetime to the same", x -> x.setLifetime(5));
        return all;
    }

    private static String told(ClaimedTasks x) {
        return Arrays.toString(Scene.allOf(x));
    }

    // ---- ACTIONS AND UNDO

    @Sentence(promise = 0, value = "The methods in the section \"actions\" change the state, which consists of the"
            + " agents, their notes, the tasks, the lifetime and the clock.")
    static void undoBringsBackAllOfTheState() {
        actions().forEach((name, action) -> {
            ClaimedTasks x = settled();
            String before = told(x);
            action.applyAsInt(x);
            due(name + " changes the state", told(x).equals(before) ? 1 : 0, 0);
            due("undo of " + name, x.undo(), 0);
            same("the state after undo of " + name, told(x), before);
        });
    }

    @Sentence(promise = 0, value = "Each call of one of them that does not throw an exception is an action, also if"
            + " nothing becomes different (undo is none).")
    static void actionsThatChangeNothingAreRemembered() {
        idleActions().forEach((name, action) -> {
            ClaimedTasks x = settled();
            String before = told(x);
            action.applyAsInt(x);
            same("the state after " + name, told(x), before);
            due("undo of " + name, x.undo(), 0);
        });
        // Two toggles, and a step of nobody's, are actions as well.
        ClaimedTasks y = settled();
        y.toggle(0);
        y.toggle(0);
        due("undo of the second toggle", y.undo(), 1);
        ClaimedTasks z = new ClaimedTasks();
        z.step(1);
        due("undo of a step without agents", z.undo(), 0);
    }

    @Sentence(promise = 0, value = "Each call of one of them that does not throw an exception is an action,")
    static void whatThrowsIsNotRemembered() {
        Map<String, ToIntFunction<ClaimedTasks>> wrong = new LinkedHashMap<>();
        wrong.put("step", x -> x.step(0));
        wrong.put("setRange", x -> x.setRange(0, 23));
        wrong.put("put", x -> x.put(0, 12, 0));
        wrong.put("toggle", x -> x.toggle(6));
        wrong.put("handOver", x -> x.handOver(0, 0));
        wrong.put("drop", x -> x.drop(-1));
        wrong.put("setLifetime", x -> x.setLifetime(21));
        wrong.forEach((name, call) -> {
            Class<? extends RuntimeException> want = name.equals("toggle") || name.equals("drop") ? INDEX : ARGUMENT;
            refused(name + " with some remembered", Boundary::busy, call, want);
            refused(name + " with 14 remembered", Boundary::full, call, want);
            if (!name.equals("toggle") && !name.equals("drop")) {
                refused(name + " with none remembered", ActionBoundaryTest::settled, call, want);
            }
        });
    }

    @Sentence(promise = 0, value = "(undo is none)")
    static void undoIsNotRemembered() {
        ClaimedTasks x = settled();
        x.setLifetime(6);
        x.setLifetime(7);
        due("undo", x.undo(), 1);
        due("lifetime", x.about(3), 6);
        due("undo again", x.undo(), 0);
        due("lifetime then", x.about(3), 5);
        refused("undo of undo", () -> {
            ClaimedTasks y = settled();
            y.setLifetime(6);
            y.undo();
            return y;
        }, ClaimedTasks::undo, STATE);
    }

    @Sentence(promise = 0, value = "Before each action, the state is remembered.")
    static void theStateBeforeEachAction() {
        int all = inAnOrderThatWorks().size();
        for (int n = all - 1; n >= 0; n--) {
            ClaimedTasks x = afterActions(all);
            for (int left = all - 1; left >= n; left--) {
                due("undo", x.undo(), left);
            }
            same("the state before action " + n, told(x), told(afterActions(n)));
        }
    }

    private static ClaimedTasks afterActions(int n) {
        ClaimedTasks x = settled();
        for (ToIntFunction<ClaimedTasks> action : inAnOrderThatWorks().subList(0, n)) {
            action.applyAsInt(x);
        }
        return x;
    }

    private static List<ToIntFunction<ClaimedTasks>> inAnOrderThatWorks() {
        return List.of(x -> x.handOver(0, 1), x -> x.setRange(1, 5), x -> x.step(1), x -> x.put(1, 9, 9),
                x -> x.setLifetime(20), x -> x.drop(1), x -> x.toggle(1));
    }

    @Sentence(promise = 0, value = "At most 14 states are remembered; when one more is remembered, the oldest one is"
            + " forgotten.")
    static void from13To43States() {
        for (int n : new int[] {1, 13, 14, 15, 16, 27, 28, 29, 42, 43}) {
            ClaimedTasks x = Scene.loaded("C05");
            for (int i = 0; i < n; i++) {
                x.step(1);
            }
            int remembered = Math.min(n, 14);
            for (int left = remembered - 1; left >= 0; left--) {
                due("undo after " + n, x.undo(), left);
                due("clock", x.about(2), n - remembered + left);
            }
            refused("one undo more after " + n, () -> steppedAndUndone(n), ClaimedTasks::undo, STATE);
        }
    }

    private static ClaimedTasks steppedAndUndone(int n) {
        ClaimedTasks x = Scene.loaded("C05");
        for (int i = 0; i < n; i++) {
            x.step(1);
        }
        for (int i = 0; i < Math.min(n, 14); i++) {
            x.undo();
        }
        return x;
    }

    @Sentence(promise = 0, value = "when one more is remembered, the oldest one is forgotten.")
    static void the15thActionOfEachKind() {
        Map<String, ToIntFunction<ClaimedTasks>> all = actions();
        all.putAll(idleActions());
        all.forEach((name, action) -> {
            ClaimedTasks x = settled();
            for (int i = 0; i < 14; i++) {
                x.setRange(0, 22);
            }
            x.undo();
            x.undo();
            x.setRange(1, 21);
            x.setRange(1, 22);
            String before = told(x);
            action.applyAsInt(x);
            due("undo of " + name, x.undo(), 13);
            same("the state after undo of " + name, told(x), before);
            due("undo of the one before", x.undo(), 12);
            due("range then", x.agent(1, 2), 21);
        });
    }

    @Sentence(promise = 0, value = "when one more is remembered, the oldest one is forgotten.")
    static void undoAndNewActionsGoRound() {
        ClaimedTasks x = Scene.loaded("C05");
        for (int i = 0; i < 20; i++) {
            x.step(1);
        }
        for (int i = 0; i < 5; i++) {
            x.undo();
        }
        due("clock", x.about(2), 15);
        for (int v = 1; v <= 5; v++) {
            x.setLifetime(v);
        }
        for (int left = 13; left >= 9; left--) {
            due("undo of a lifetime", x.undo(), left);
            due("lifetime", x.about(3), left == 9 ? 5 : left - 9);
            due("clock", x.about(2), 15);
        }
        for (int left = 8; left >= 0; left--) {
            due("undo of a step", x.undo(), left);
            due("clock", x.about(2), 6 + left);
        }
    }

    @Sentence(promise = 0, value = "The text and the save slots are not part of the state.")
    static void undoLeavesTextAndSlots() {
        ClaimedTasks x = Scene.loaded(TWO);
        x.step(1);
        x.append('t');
        x.save(0);
        x.step(1);
        due("undo", x.undo(), 1);
        due("undo", x.undo(), 0);
        due("the text", x.errorPosition(), 24);
        due("the slot", x.restore(0), 1);
        due("the text after restore", x.clearText(), 24);
        // A text that was emptied is not brought back.
        ClaimedTasks y = Scene.loaded(TWO);
        y.step(1);
        y.clearText();
        y.undo();
        due("no text", y.clearText(), 0);
    }

    @Sentence(promise = 0, value = "undo, load and restore are not actions.")
    static void onlyActionsAreRemembered() {
        ClaimedTasks x = settled();
        x.append('a');
        x.clearText();
        x.save(1);
        Scene.type(x, TWO);
        x.errorPosition();
        refused("undo after restore, and after calls that are no actions", () -> {
            ClaimedTasks y = settled();
            y.append('a');
            y.clearText();
            y.save(1);
            y.errorPosition();
            return y;
        }, ClaimedTasks::undo, STATE);
        refused("undo after load", () -> Scene.loaded(TWO), ClaimedTasks::undo, STATE);
        x.step(1);
        x.save(0);
        due("undo of the step before save", x.undo(), 0);
        due("clock", x.about(2), 2);
    }

    // ---- promise 11

    @Sentence(promise = 11, value = "`r`: new range, 0 to 22")
    static void rangesFrom0To22() {
        ClaimedTasks x = Scene.loaded("C05a000022a000007");
        int previous = 22;
        for (int r = 0; r <= 22; r++) {
            due("setRange(0, " + r + ")", x.setRange(0, r), previous);
            due("range", x.agent(0, 2), r);
            previous = r;
        }
        due("the other range", x.agent(1, 2), 7);
    }

    @Sentence(promise = 11, value = "Returns the previous range.")
    static void thePreviousRange() {
        due("0", Scene.loaded("C05a000000").setRange(0, 22), 0);
        due("22", Scene.loaded("C05a000022").setRange(0, 0), 22);
        due("the same", Scene.loaded("C05a000005").setRange(0, 5), 5);
        ClaimedTasks x = Boundary.full();
        due("of the last agent", x.setRange(5, 1), 22);
        x.toggle(5);
        due("of one that is off", x.setRange(5, 2), 1);
    }

    @Sentence(promise = 11, value = "Throws `IndexOutOfBoundsException` if there is no such agent")
    static void rangeOfNoAgent() {
        for (int bad : outside(0, 2)) {
            refused("setRange(" + bad + ", 0)", Boundary::busy, x -> x.setRange(bad, 0), INDEX);
            refused("setRange(" + bad + ", 23), the index first", Boundary::busy, x -> x.setRange(bad, 23), INDEX);
            refused("setRange(" + bad + ", -1), the index first", Boundary::busy, x -> x.setRange(bad, -1), INDEX);
        }
        for (int bad : outside(0, 5)) {
            refused("setRange(" + bad + ", 5) of 6", Boundary::full, x -> x.setRange(bad, 5), INDEX);
        }
    }

    @Sentence(promise = 11, value = "Throws `IllegalArgumentException` if r is out of range")
    static void wrongRanges() {
        for (int bad : outside(0, 22)) {
            refused("setRange(0, " + bad + ")", Boundary::busy, x -> x.setRange(0, bad), ARGUMENT);
            refused("setRange(5, " + bad + ")", Boundary::full, x -> x.setRange(5, bad), ARGUMENT);
        }
    }

    // ---- promise 12

    @Sentence(promise = 12, value = "`x`: column, 0 to 11")
    static void columnsFrom0To11() {
        ClaimedTasks x = Scene.loaded("C05a110500a070700");
        int previous = 11;
        for (int column = 0; column <= 11; column++) {
            due("put at column " + column, x.put(0, column, 5), Math.abs(column - previous));
            due("column", x.agent(0, 0), column);
            due("row", x.agent(0, 1), 5);
            previous = column;
        }
        due("the other column", x.agent(1, 0), 7);
    }

    @Sentence(promise = 12, value = "`y`: row, 0 to 11")
    static void rowsFrom0To11() {
        ClaimedTasks x = Scene.loaded("C05a051100a070700");
        int previous = 11;
        for (int row = 0; row <= 11; row++) {
            due("put at row " + row, x.put(0, 5, row), Math.abs(row - previous));
            due("row", x.agent(0, 1), row);
            due("column", x.agent(0, 0), 5);
            previous = row;
        }
        due("the other row", x.agent(1, 1), 7);
    }

    @Sentence(promise = 12, value = "Returns the distance of the new place from the previous one.")
    static void distancesOfPut() {
        ClaimedTasks x = Scene.loaded("C05a000000");
        due("the same place", x.put(0, 0, 0), 0);
        due("the far corner", x.put(0, 11, 11), 22);
        due("and back", x.put(0, 0, 0), 22);
        due("one place", x.put(0, 0, 1), 1);
        x.toggle(0);
        due("of one that is off", x.put(0, 5, 1), 5);
        due("no moves", x.agent(0, 5), 0);
    }

    @Sentence(promise = 12, value = "Throws `IndexOutOfBoundsException` if there is no such agent")
    static void placeOfNoAgent() {
        for (int bad : outside(0, 2)) {
            refused("put(" + bad + ", 0, 0)", Boundary::busy, x -> x.put(bad, 0, 0), INDEX);
            refused("put(" + bad + ", 12, 0), the index first", Boundary::busy, x -> x.put(bad, 12, 0), INDEX);
            refused("put(" + bad + ", 0, -1), the index first", Boundary::busy, x -> x.put(bad, 0, -1), INDEX);
        }
        for (int bad : outside(0, 5)) {
            refused("put(" + bad + ", 5, 5) of 6", Boundary::full, x -> x.put(bad, 5, 5), INDEX);
        }
    }

    @Sentence(promise = 12, value = "Throws `IllegalArgumentException` if x or y is out of range")
    static void wrongPlaces() {
        for (int bad : outside(0, 11)) {
            refused("put(0, " + bad + ", 0)", Boundary::busy, x -> x.put(0, bad, 0), ARGUMENT);
            refused("put(0, 11, " + bad + ")", Boundary::busy, x -> x.put(0, 11, bad), ARGUMENT);
            refused("put(5, " + bad + ", " + bad + ")", Boundary::full, x -> x.put(5, bad, bad), ARGUMENT);
        }
    }

    // ---- promise 13

    @Sentence(promise = 13, value = "Switches an agent on or off.")
    static void offAndOnAgain() {
        ClaimedTasks x = settled();
        String before = told(x);
        x.toggle(0);
        due("off", x.agent(0, 3), 0);
        due("the other one stays on", x.agent(1, 3), 1);
        due("its claim stays", x.note(0, 0, 1), 0);
        x.toggle(0);
        same("the state after two toggles", told(x), before);
    }

    @Sentence(promise = 13, value = "Returns the number of agents that are on then.")
    static void from6To0On() {
        ClaimedTasks x = Boundary.full();
        for (int a = 0; a < 6; a++) {
            due("toggle off", x.toggle(a), 5 - a);
        }
        for (int a = 0; a < 6; a++) {
            due("toggle on", x.toggle(5 - a), a + 1);
        }
        due("one alone", Scene.loaded("C05a000000").toggle(0), 0);
    }

    @Sentence(promise = 13, value = "Throws `IndexOutOfBoundsException` if there is no such agent")
    static void toggleOfNoAgent() {
        for (int bad : outside(0, 2)) {
            refused("toggle(" + bad + ")", Boundary::busy, x -> x.toggle(bad), INDEX);
        }
        for (int bad : outside(0, 5)) {
            refused("toggle(" + bad + ") of 6", Boundary::full, x -> x.toggle(bad), INDEX);
        }
    }

    // ---- promise 14

    @Sentence(promise = 14, value = "becomes, for both agents, a claim with b as the owner, b's distance from the task,"
            + " and the expiry (clock + lifetime).")
    static void bothNotesBecomeTheClaim() {
        ClaimedTasks x = settled();
        x.put(1, 11, 11);
        x.setLifetime(20);
        due("handOver", x.handOver(0, 1), 0);
        for (int a = 0; a < 2; a++) {
            NoteBoundaryTest.noteIs("after handOver", x, a, 0, 1, 1, 21, 22);
        }
        // With the lifetime 1 it is a claim until the next step is over.
        ClaimedTasks y = settled();
        y.setLifetime(1);
        y.handOver(0, 1);
        NoteBoundaryTest.noteIs("lifetime 1", y, 1, 0, 1, 1, 1, 3);
        due("own task of 1", y.agent(1, 4), 0);
        // A third agent keeps its note.
        ClaimedTasks z = Scene.loaded("C05a000022a030022a040022t01005");
        z.step(2);
        z.handOver(0, 2);
        due("the note of agent 1", z.note(1, 0, 1), 0);
        due("the note of agent 2", z.note(2, 0, 1), 2);
    }

    @Sentence(promise = 14, value = "the note of a's own task (the smallest one, if a is the owner of several of its"
            + " claims)")
    static void theLiveClaimIsHandedOver() {
        // Agent 1 owns an expired claim of task 0 and a live one of task 1: it hands over task 1.
        ClaimedTasks x = Scene.loaded("C03a110022a000022t00009t11009");
        x.step(1);
        x.toggle(1);
        x.step(2);
        x.toggle(1);
        due("to agent 1", x.handOver(0, 1), 1);
        due("and back", x.handOver(1, 0), 1);
        NoteBoundaryTest.noteIs("the expired one stays", x, 1, 0, 1, 1, 0, 3);
        NoteBoundaryTest.noteIs("the note of task 1", x, 1, 1, 1, 0, 0, 6);
    }

    @Sentence(promise = 14, value = "Returns the task.")
    static void fromTheFirstTaskToTheLast() {
        for (int t = 0; t < 8; t++) {
            ClaimedTasks x = Scene.loaded("C05a000022a000022" + "t11111".repeat(t) + "t00009" + "t11111".repeat(7 - t));
            x.toggle(1);
            x.step(1);
            x.toggle(1);
            due("handOver", x.handOver(0, 1), t);
        }
    }

    @Sentence(promise = 14, value = "Throws `IndexOutOfBoundsException` if there is no such agent")
    static void handOverOfNoAgent() {
        for (int bad : outside(0, 2)) {
            refused("handOver(" + bad + ", 0)", Boundary::busy, x -> x.handOver(bad, 0), INDEX);
            refused("handOver(0, " + bad + ")", Boundary::busy, x -> x.handOver(0, bad), INDEX);
            refused("handOver(" + bad + ", " + bad + "), the index first", Boundary::busy,
                    x -> x.handOver(bad, bad), INDEX);
        }
        for (int bad : outside(0, 5)) {
            refused("handOver(" + bad + ", 5) of 6", Boundary::full, x -> x.handOver(bad, 5), INDEX);
            refused("handOver(5, " + bad + ") of 6", Boundary::full, x -> x.handOver(5, bad), INDEX);
        }
    }

    @Sentence(promise = 14, value = "Throws `IllegalArgumentException` if a and b are the same")
    static void handOverToItself() {
        for (int a = 0; a < 2; a++) {
            int same = a;
            refused("handOver to itself", Boundary::busy, x -> x.handOver(same, same), ARGUMENT);
            refused("handOver to itself without a claim", () -> Scene.loaded(TWO), x -> x.handOver(same, same), ARGUMENT);
        }
        refused("handOver to itself while off", Boundary::busy, x -> x.handOver(2, 2), ARGUMENT);
        refused("handOver of the last to itself", Boundary::full, x -> x.handOver(5, 5), ARGUMENT);
    }

    private static Supplier<ClaimedTasks> settledWith(ToIntFunction<ClaimedTasks> change) {
        return () -> {
            ClaimedTasks x = settled();
            change.applyAsInt(x);
            return x;
        };
    }

    @Sentence(promise = 14, value = "Throws `IllegalStateException` if they do not hear each other,")
    static void handOverUnheard() {
        // Agent 0 is at (1, 0), agent 1 at (2, 0).
        due("at the range", settledWith(x -> x.setRange(0, 1)).get().handOver(0, 1), 0);
        due("at the other range", settledWith(x -> x.setRange(1, 1)).get().handOver(0, 1), 0);
        refused("beyond the range of a", settledWith(x -> x.setRange(0, 0)), x -> x.handOver(0, 1), STATE);
        refused("beyond the range of b", settledWith(x -> x.setRange(1, 0)), x -> x.handOver(0, 1), STATE);
        refused("a is off", settledWith(x -> x.toggle(0)), x -> x.handOver(0, 1), STATE);
        refused("b is off", settledWith(x -> x.toggle(1)), x -> x.handOver(0, 1), STATE);
        // Agent 2 hears both, but agents 0 and 1 do not hear each other.
        refused("a message would have to be passed on", () -> {
            ClaimedTasks x = Scene.loaded("C05a000022a020022a010022t00009");
            x.step(2);
            x.setRange(0, 1);
            x.put(1, 2, 0);
            return x;
        }, x -> x.handOver(0, 1), STATE);
        due("in the same place with the range 0", settledWith(x -> x.setRange(0, 0) + x.put(1, 1, 0)).get()
                .handOver(0, 1), 0);
    }

    @Sentence(promise = 14, value = "a has no claim,")
    static void handOverOfNothing() {
        refused("nobody has one yet", () -> Scene.loaded("C05a000022a000022t00009"), x -> x.handOver(0, 1), STATE);
        refused("a holds the claim of b", ActionBoundaryTest::settled, x -> x.handOver(1, 0), STATE);
        refused("a has dropped it", settledWith(x -> x.drop(0)), x -> x.handOver(0, 1), STATE);
        refused("a has given it away", settledWith(x -> x.handOver(0, 1)), x -> x.handOver(0, 1), STATE);
        refused("no tasks", () -> Scene.loaded("C05a000022a000022"), x -> x.handOver(0, 1), STATE);
        // The claim of agent 0 has the expiry 6.
        due("expiry", settled().note(0, 0, 3), 6);
        due("a step before it expires", sleptUntil(5).handOver(0, 1), 0);
        refused("it has just expired", () -> sleptUntil(6), x -> x.handOver(0, 1), STATE);
    }

    /** Both agents are off until the clock is there, and then on again. */
    private static ClaimedTasks sleptUntil(int clock) {
        ClaimedTasks x = settled();
        x.toggle(0);
        x.toggle(1);
        x.step(clock - 2);
        x.toggle(0);
        x.toggle(1);
        return x;
    }

    /** Agent 1, with a claim of its own with the expiry 3, is off until the clock is there. */
    private static ClaimedTasks withAnOldClaim(int clock) {
        ClaimedTasks x = Scene.loaded("C03a000022a110022t00009t11009");
        x.step(1);
        x.toggle(1);
        x.step(clock - 1);
        x.toggle(1);
        return x;
    }

    @Sentence(promise = 14, value = "or b has a claim")
    static void handOverToOneThatHasAClaim() {
        refused("both claim the same task", () -> {
            ClaimedTasks x = Scene.loaded(TWO);
            x.step(1);
            return x;
        }, x -> x.handOver(0, 1), STATE);
        refused("b claims another task", () -> withAnOldClaim(2), x -> x.handOver(0, 1), STATE);
        due("the claim of b has just expired", withAnOldClaim(3).handOver(0, 1), 0);
    }

    // ---- promise 15

    @Sentence(promise = 15, value = "each of its notes that is a claim of which it is the owner (expired or not) becomes"
            + " empty.")
    static void ownClaimsExpiredOrNot() {
        ClaimedTasks x = settled();
        due("a live claim", x.drop(0), 1);
        NoteBoundaryTest.noteIs("dropped", x, 0, 0, 0);
        NoteBoundaryTest.noteIs("the other note stays", x, 1, 0, 1, 0, 1, 5);
        due("the claim of another agent", x.drop(1), 0);
        NoteBoundaryTest.noteIs("it stays", x, 1, 0, 1, 0, 1, 5);
        ClaimedTasks y = withAnOldClaim(3);
        due("an expired claim", y.drop(1), 1);
        NoteBoundaryTest.noteIs("dropped too", y, 1, 1, 0);
        ClaimedTasks z = Scene.loaded("C05a000000t00001");
        z.step(1);
        due("a note that says finished", z.drop(0), 0);
        NoteBoundaryTest.noteIs("it stays too", z, 0, 0, 2);
    }

    @Sentence(promise = 15, value = "Returns how many these were.")
    static void noneOneOrTwo() {
        due("none", Scene.loaded(TWO).drop(0), 0);
        due("no tasks", Scene.loaded("C05a000000").drop(0), 0);
        due("one", settled().drop(0), 1);
        // A live claim that is handed over, beside an expired one.
        ClaimedTasks x = withAnOldClaim(3);
        x.handOver(0, 1);
        due("two", x.drop(1), 2);
        for (int t = 0; t < 2; t++) {
            NoteBoundaryTest.noteIs("both are empty", x, 1, t, 0);
        }
        due("none is left", x.drop(1), 0);
        ClaimedTasks y = settled();
        y.toggle(0);
        due("of one that is off", y.drop(0), 1);
    }

    @Sentence(promise = 15, value = "Throws `IndexOutOfBoundsException` if there is no such agent")
    static void dropOfNoAgent() {
        for (int bad : outside(0, 2)) {
            refused("drop(" + bad + ")", Boundary::busy, x -> x.drop(bad), INDEX);
        }
        for (int bad : outside(0, 5)) {
            refused("drop(" + bad + ") of 6", Boundary::full, x -> x.drop(bad), INDEX);
        }
    }

    // ---- promise 16

    @Sentence(promise = 16, value = "(Claims keep their expiry.)")
    static void claimsKeepTheirExpiry() {
        for (int v : new int[] {1, 20}) {
            ClaimedTasks x = settled();
            x.setLifetime(v);
            due("expiry", x.note(0, 0, 3), 6);
            due("expiry in the other note", x.note(1, 0, 3), 5);
            x.step(1);
            due("expiry when it is renewed", x.note(0, 0, 3), 2 + v);
        }
    }

    @Sentence(promise = 16, value = "`v`: new lifetime, 1 to 20")
    static void lifetimesFrom1To20() {
        ClaimedTasks x = new ClaimedTasks();
        for (int v = 1; v <= 20; v++) {
            x.setLifetime(v);
            due("lifetime", x.about(3), v);
        }
    }

    @Sentence(promise = 16, value = "Returns the previous lifetime.")
    static void thePreviousLifetime() {
        ClaimedTasks x = new ClaimedTasks();
        due("of a new object", x.setLifetime(20), 5);
        due("20", x.setLifetime(1), 20);
        due("1", x.setLifetime(1), 1);
        due("the same", x.setLifetime(7), 1);
        due("of a loaded one", Scene.loaded("C13").setLifetime(5), 13);
    }

    @Sentence(promise = 16, value = "Throws `IllegalArgumentException` if v is out of range")
    static void wrongLifetimes() {
        for (int bad : outside(1, 20)) {
            refused("setLifetime(" + bad + ")", Boundary::busy, x -> x.setLifetime(bad), ARGUMENT);
            refused("setLifetime(" + bad + ") with 14 remembered", Boundary::full, x -> x.setLifetime(bad), ARGUMENT);
            refused("setLifetime(" + bad + ") of nobody", ClaimedTasks::new, x -> x.setLifetime(bad), ARGUMENT);
        }
    }

    // ---- promise 17

    @Sentence(promise = 17, value = "Takes back the last action that is remembered.")
    static void theLastActionFirst() {
        ClaimedTasks x = settled();
        x.setLifetime(7);
        x.setRange(0, 3);
        x.undo();
        due("the range is back", x.agent(0, 2), 22);
        due("the lifetime is not", x.about(3), 7);
        x.undo();
        due("the lifetime is back", x.about(3), 5);
    }

    @Sentence(promise = 17, value = "Returns how many states are still remembered.")
    static void from13To0() {
        ClaimedTasks x = Boundary.full();
        for (int left = 13; left >= 0; left--) {
            due("undo", x.undo(), left);
        }
        ClaimedTasks y = settled();
        y.toggle(0);
        due("of one", y.undo(), 0);
    }

    @Sentence(promise = 17, value = "Throws `IllegalStateException` if none is remembered")
    static void undoOfNothing() {
        refused("undo of a new object", ClaimedTasks::new, ClaimedTasks::undo, STATE);
        refused("undo after load", () -> Scene.loaded(TWO), ClaimedTasks::undo, STATE);
        refused("undo after restore", ActionBoundaryTest::settled, ClaimedTasks::undo, STATE);
        refused("undo when all are taken back", () -> undone(Boundary.full(), 14), ClaimedTasks::undo, STATE);
        refused("undo when all five are taken back", () -> undone(Boundary.busy(), 5), ClaimedTasks::undo, STATE);
    }

    private static ClaimedTasks undone(ClaimedTasks x, int times) {
        for (int i = 0; i < times; i++) {
            x.undo();
        }
        return x;
    }
}
