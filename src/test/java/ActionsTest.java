import java.util.Arrays;
import java.util.function.ToIntFunction;

/** Promises 11 to 17: the actions beside step, and undo. */
public final class ActionsTest {
    private static final Check CHECK = new Check();
    private static final Scene SCENE = new Scene(CHECK);
    private static final Class<IndexOutOfBoundsException> INDEX = IndexOutOfBoundsException.class;
    private static final Class<IllegalArgumentException> ARGUMENT = IllegalArgumentException.class;
    private static final Class<IllegalStateException> STATE = IllegalStateException.class;
    // Both hear each other; agent 0 is nearer to the one task and has it after two steps.
    private static final String TWO = "C05a000022a030022t01005";
    private static final int[] NO_AGENTS = {-1, 2, 6, Integer.MIN_VALUE, Integer.MAX_VALUE};

    public static void main(String[] args) {
        setRange();
        put();
        toggle();
        handOver();
        handOverRefuses();
        drop();
        setLifetime();
        undoOfEach();
        undoHasALimit();
        undoForgetsNothingElse();
        CHECK.end();
    }

    private static void setRange() {
        ClaimedTasks x = Scene.loaded(TWO);
        CHECK.due("setRange 0", x.setRange(0, 0), 22);
        CHECK.due("setRange 22", x.setRange(0, 22), 0);
        CHECK.due("setRange 7", x.setRange(1, 7), 22);
        CHECK.due("range of 0", x.agent(0, 2), 22);
        CHECK.due("range of 1", x.agent(1, 2), 7);
        for (int bad : NO_AGENTS) {
            SCENE.refused(x, "setRange of " + bad, () -> x.setRange(bad, 3), INDEX);
        }
        for (int bad : new int[] {-1, 23, Integer.MIN_VALUE, Integer.MAX_VALUE}) {
            SCENE.refused(x, "setRange to " + bad, () -> x.setRange(0, bad), ARGUMENT);
        }
        SCENE.refused(x, "setRange: the index comes first", () -> x.setRange(2, 23), INDEX);
        CHECK.due("only what did not throw is remembered", x.undo(), 2);
    }

    private static void put() {
        ClaimedTasks x = Scene.loaded(TWO);
        x.step(1);
        int[] note = {x.note(1, 0, 1), x.note(1, 0, 2), x.note(1, 0, 3)};
        CHECK.due("put", x.put(1, 11, 4), 13);
        CHECK.due("column", x.agent(1, 0), 11);
        CHECK.due("row", x.agent(1, 1), 4);
        CHECK.due("no moves are counted", x.agent(1, 5), 1);
        for (int what = 1; what <= 3; what++) {
            CHECK.due("its note stays", x.note(1, 0, what), note[what - 1]);
        }
        CHECK.due("put at the same place", x.put(1, 11, 4), 0);
        CHECK.due("put far away", x.put(1, 0, 11), 18);
        CHECK.due("put at the corner", x.put(1, 11, 0), 22);
        CHECK.due("the other one stays", x.agent(0, 0), 1);
        for (int bad : NO_AGENTS) {
            SCENE.refused(x, "put of " + bad, () -> x.put(bad, 0, 0), INDEX);
        }
        for (int bad : new int[] {-1, 12, Integer.MIN_VALUE, Integer.MAX_VALUE}) {
            SCENE.refused(x, "put at column " + bad, () -> x.put(0, bad, 0), ARGUMENT);
            SCENE.refused(x, "put at row " + bad, () -> x.put(0, 0, bad), ARGUMENT);
        }
        SCENE.refused(x, "put: the index comes first", () -> x.put(2, 12, 12), INDEX);
        CHECK.due("only what did not throw is remembered", x.undo(), 4);
    }

    private static void toggle() {
        ClaimedTasks x = Scene.loaded(TWO);
        x.step(1);
        CHECK.due("toggle 1", x.toggle(1), 1);
        CHECK.due("1 is off", x.agent(1, 3), 0);
        CHECK.due("its note stays", x.note(1, 0, 1), 1);
        CHECK.due("toggle 0", x.toggle(0), 0);
        CHECK.due("toggle 1 again", x.toggle(1), 1);
        CHECK.due("1 is on", x.agent(1, 3), 1);
        CHECK.due("0 is off", x.agent(0, 3), 0);
        for (int bad : NO_AGENTS) {
            SCENE.refused(x, "toggle of " + bad, () -> x.toggle(bad), INDEX);
        }
        CHECK.due("only what did not throw is remembered", x.undo(), 3);
    }

    private static void handOver() {
        ClaimedTasks x = Scene.loaded(TWO);
        x.step(2);
        CHECK.due("handOver", x.handOver(0, 1), 0);
        for (int a = 0; a < 2; a++) {
            CHECK.due("kind", x.note(a, 0, 0), 1);
            CHECK.due("owner", x.note(a, 0, 1), 1);
            CHECK.due("distance of the new owner", x.note(a, 0, 2), 1);
            CHECK.due("expiry", x.note(a, 0, 3), 7);
        }
        CHECK.due("0 has none", x.agent(0, 4), -9);
        CHECK.due("1 has it", x.agent(1, 4), 0);
        CHECK.due("and back", x.handOver(1, 0), 0);
        CHECK.due("owner then", x.note(1, 0, 1), 0);
        CHECK.due("distance then", x.note(1, 0, 2), 0);
        // Of two tasks it is the own one that is handed over; the other note stays.
        ClaimedTasks y = Scene.loaded("C04a000022a110022t00009t11009");
        y.step(2);
        CHECK.due("drop", y.drop(0), 1);
        CHECK.due("handOver of task 1", y.handOver(1, 0), 1);
        CHECK.due("its distance", y.note(0, 1, 2), 11);
        CHECK.due("task 0 stays empty", y.note(0, 0, 0), 0);
        CHECK.due("and known to 1", y.note(1, 0, 1), 0);
        // A note that says finished becomes a claim as well.
        ClaimedTasks z = Scene.loaded("C09a000000a030000t00001");
        z.step(1);
        z.setRange(0, 22);
        z.setRange(1, 22);
        CHECK.due("handOver to one that knows better", z.handOver(1, 0), 0);
        CHECK.due("it is a claim then", z.note(0, 0, 0), 1);
    }

    private static void handOverRefuses() {
        ClaimedTasks x = Scene.loaded(TWO);
        SCENE.refused(x, "0 has no claim", () -> x.handOver(0, 1), STATE);
        x.step(1);
        SCENE.refused(x, "1 has a claim too", () -> x.handOver(0, 1), STATE);
        x.step(1);
        SCENE.refused(x, "1 has no claim", () -> x.handOver(1, 0), STATE);
        for (int bad : NO_AGENTS) {
            SCENE.refused(x, "handOver of " + bad, () -> x.handOver(bad, 1), INDEX);
            SCENE.refused(x, "handOver to " + bad, () -> x.handOver(0, bad), INDEX);
            SCENE.refused(x, "handOver in " + bad, () -> x.handOver(bad, bad), INDEX);
        }
        SCENE.refused(x, "handOver to itself", () -> x.handOver(0, 0), ARGUMENT);
        SCENE.refused(x, "handOver to itself without a claim", () -> x.handOver(1, 1), ARGUMENT);
        x.setRange(1, 0);
        SCENE.refused(x, "out of range", () -> x.handOver(0, 1), STATE);
        x.setRange(1, 1);
        x.toggle(1);
        SCENE.refused(x, "1 is off", () -> x.handOver(0, 1), STATE);
        x.toggle(1);
        x.toggle(0);
        SCENE.refused(x, "0 is off", () -> x.handOver(0, 1), STATE);
        x.toggle(0);
        CHECK.due("at the distance of the range", x.handOver(0, 1), 0);
        CHECK.due("only what did not throw is remembered", x.undo(), 8);
        // An expired claim can't be handed over, and does not hinder either.
        ClaimedTasks y = Scene.loaded("C01a000022a000022t05009t06009");
        y.step(1);
        SCENE.refused(y, "the claim is expired", () -> y.handOver(0, 1), STATE);
        ClaimedTasks z = Scene.loaded("C03a000022a010022t05009");
        z.step(1);
        z.toggle(1);
        z.step(3);
        z.toggle(1);
        CHECK.due("1 has an expired claim", z.note(1, 0, 1), 1);
        CHECK.due("expired at", z.note(1, 0, 3), 3);
        CHECK.due("so it can take one", z.handOver(0, 1), 0);
    }

    private static void drop() {
        ClaimedTasks x = Scene.loaded(TWO);
        CHECK.due("nothing to drop", x.drop(0), 0);
        x.step(2);
        CHECK.due("a claim of another one is not dropped", x.drop(1), 0);
        CHECK.due("it stays", x.note(1, 0, 0), 1);
        CHECK.due("drop", x.drop(0), 1);
        CHECK.due("empty", x.note(0, 0, 0), 0);
        CHECK.due("no owner", x.note(0, 0, 1), -9);
        CHECK.due("the other note stays", x.note(1, 0, 1), 0);
        for (int bad : NO_AGENTS) {
            SCENE.refused(x, "drop of " + bad, () -> x.drop(bad), INDEX);
        }
        CHECK.due("only what did not throw is remembered", x.undo(), 3);
        ClaimedTasks y = Scene.loaded("C01a000000t05009");
        y.step(1);
        CHECK.due("an expired claim is dropped too", y.drop(0), 1);
        CHECK.due("it is empty", y.note(0, 0, 0), 0);
        ClaimedTasks z = Scene.loaded("C05a000000t00001");
        z.step(1);
        CHECK.due("a note that says finished is no claim", z.drop(0), 0);
        CHECK.due("and stays", z.note(0, 0, 0), 2);
        z.toggle(0);
        CHECK.due("one that is off can drop", z.drop(0), 0);
    }

    private static void setLifetime() {
        ClaimedTasks x = Scene.loaded(TWO);
        x.step(1);
        CHECK.due("setLifetime", x.setLifetime(20), 5);
        CHECK.due("claims keep their expiry", x.note(0, 0, 3), 5);
        x.step(1);
        CHECK.due("renewed with the new one", x.note(0, 0, 3), 21);
        CHECK.due("setLifetime 1", x.setLifetime(1), 20);
        CHECK.due("lifetime", x.about(3), 1);
        for (int bad : new int[] {0, -1, 21, Integer.MIN_VALUE, Integer.MAX_VALUE}) {
            SCENE.refused(x, "setLifetime " + bad, () -> x.setLifetime(bad), ARGUMENT);
        }
        CHECK.due("only what did not throw is remembered", x.undo(), 3);
        CHECK.due("lifetime after undo", x.about(3), 20);
    }

    private static void undoOfEach() {
        takenBack("step", x -> x.step(13));
        takenBack("setRange", x -> x.setRange(0, 1));
        takenBack("put", x -> x.put(1, 9, 9));
        takenBack("toggle", x -> x.toggle(0));
        takenBack("handOver", x -> x.handOver(0, 1));
        takenBack("drop", x -> x.drop(0));
        takenBack("setLifetime", x -> x.setLifetime(3));
        takenBack("setRange to the same", x -> x.setRange(0, 22));
        takenBack("put at the same place", x -> x.put(0, 1, 0));
        takenBack("setLifetime to the same", x -> x.setLifetime(5));
        takenBack("drop of nothing", x -> x.drop(1));
    }

    private static void takenBack(String name, ToIntFunction<ClaimedTasks> action) {
        ClaimedTasks x = Scene.loaded(TWO);
        x.step(2);
        int[] before = Scene.allOf(x);
        action.applyAsInt(x);
        CHECK.due("undo of " + name, x.undo(), 1);
        CHECK.isTrue("undo of " + name + " does not bring the state back", Arrays.equals(before, Scene.allOf(x)));
        CHECK.due("the last undo", x.undo(), 0);
        CHECK.due("the clock", x.about(2), 0);
        SCENE.refused(x, "undo of nothing", () -> x.undo(), STATE);
    }

    private static void undoHasALimit() {
        ClaimedTasks x = Scene.loaded(TWO);
        for (int v = 1; v <= 17; v++) {
            x.setLifetime(v);
        }
        for (int left = 13; left >= 0; left--) {
            CHECK.due("undo", x.undo(), left);
            CHECK.due("lifetime after undo", x.about(3), left + 3);
        }
        SCENE.refused(x, "undo of what is forgotten", () -> x.undo(), STATE);
        x.setLifetime(9);
        x.setLifetime(10);
        CHECK.due("undo goes on", x.undo(), 1);
        x.setLifetime(11);
        CHECK.due("undo is no action", x.undo(), 1);
        CHECK.due("lifetime then", x.about(3), 9);
        CHECK.due("undo to the first", x.undo(), 0);
        CHECK.due("lifetime at last", x.about(3), 3);
    }

    private static void undoForgetsNothingElse() {
        ClaimedTasks x = Scene.loaded(TWO);
        x.step(1);
        x.save(0);
        x.append('t');
        x.undo();
        CHECK.due("the text is not part of the state", x.clearText(), 24);
        CHECK.due("nor is a slot", x.restore(0), 1);
    }
}
