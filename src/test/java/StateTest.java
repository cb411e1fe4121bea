/** Promises 6 to 9: about, agent, task, note. */
public final class StateTest {
    private static final Check CHECK = new Check();
    private static final Scene SCENE = new Scene(CHECK);
    // Both hear each other; agent 0 is nearer to the one task.
    private static final String TWO = "C05a000022a030022t01005";

    public static void main(String[] args) {
        about();
        agent();
        hearing();
        task();
        note();
        expiredClaims();
        wrongInputs();
        CHECK.end();
    }

    private static void about() {
        // Agents 0 and 1 stand on task 0, agent 2 walks to task 1 or waits for it.
        ClaimedTasks x = Scene.loaded("C06a000000a000000a050500t00001t05079");
        x.step(1);
        int[] want = {3, 2, 1, 6, 1, 1, 1, 7};
        for (int what = 0; what <= 7; what++) {
            int w = what;
            SCENE.asked(x, "about " + what, () -> x.about(w), want[what]);
        }
        x.toggle(1);
        CHECK.due("about 7 with agent 1 off", x.about(7), 5);
        CHECK.due("about 6 counts agents that are off", x.about(6), 1);
        x.setLifetime(20);
        CHECK.due("about 3", x.about(3), 20);
    }

    private static void agent() {
        ClaimedTasks x = Scene.loaded("C06a000000a000000a050500t00001t05079");
        x.step(1);
        int[][] want = {{0, 0, 0, 1, -9, 0, 0, 2}, {0, 0, 0, 1, -9, 0, 1, 1}, {5, 6, 0, 1, 1, 1, 0, 0}};
        for (int a = 0; a < 3; a++) {
            for (int what = 0; what <= 7; what++) {
                int b = a;
                int w = what;
                SCENE.asked(x, "agent " + a + " " + what, () -> x.agent(b, w), want[a][what]);
            }
        }
        x.toggle(2);
        CHECK.due("off", x.agent(2, 3), 0);
        CHECK.due("an agent that is off has its claim", x.agent(2, 4), 1);
    }

    private static void hearing() {
        ClaimedTasks x = Scene.loaded("C05a000003a030004a060022a030003");
        CHECK.due("0 hears at distance 3", x.agent(0, 7), 0b1010);
        CHECK.due("1 hears", x.agent(1, 7), 0b1101);
        CHECK.due("2 hears", x.agent(2, 7), 0b1010);
        x.setRange(1, 2);
        CHECK.due("the smaller range counts", x.agent(0, 7), 0b1000);
        CHECK.due("the same place is near enough", x.agent(1, 7), 0b1000);
        x.toggle(3);
        CHECK.due("who is off is not heard", x.agent(0, 7), 0);
        CHECK.due("who is off hears nobody", x.agent(3, 7), 0);
    }

    private static void task() {
        ClaimedTasks x = Scene.loaded(TWO);
        x.step(1);
        int[] first = {1, 0, 5, 0, 0, 0, 3};
        for (int what = 0; what <= 6; what++) {
            int w = what;
            SCENE.asked(x, "task after 1 step, " + what, () -> x.task(0, w), first[what]);
        }
        x.step(1);
        CHECK.due("one claimant is left", x.task(0, 6), 1);
        CHECK.due("progress", x.task(0, 3), 1);
        x.toggle(0);
        CHECK.due("a claimant that is off does not count", x.task(0, 6), 0);
        x.toggle(0);
        x.step(3);
        CHECK.due("not yet finished", x.task(0, 4), 0);
        x.step(1);
        int[] finished = {1, 0, 5, 5, 1, 1, 0};
        for (int what = 0; what <= 6; what++) {
            CHECK.due("finished task, " + what, x.task(0, what), finished[what]);
        }
        x.toggle(0);
        CHECK.due("one that is off counts as knowing", x.task(0, 5), 1);
        x.toggle(0);
        x.step(1);
        CHECK.due("both know", x.task(0, 5), 3);
    }

    private static void note() {
        ClaimedTasks x = Scene.loaded(TWO);
        noteIs(x, 0, 0, -9, -9, -9);
        x.step(1);
        noteIs(x, 0, 1, 0, 1, 5);
        noteIs(x, 1, 1, 1, 2, 5);
        x.step(1);
        noteIs(x, 0, 1, 0, 0, 6);
        noteIs(x, 1, 1, 0, 1, 5);
        x.step(4);
        noteIs(x, 0, 2, -9, -9, -9);
        noteIs(x, 1, 1, 0, 0, 9);
        x.step(1);
        noteIs(x, 1, 2, -9, -9, -9);
    }

    private static void noteIs(ClaimedTasks x, int a, int kind, int owner, int distance, int expiry) {
        int[] want = {kind, owner, distance, expiry};
        for (int what = 0; what <= 3; what++) {
            int w = what;
            SCENE.asked(x, "note of " + a + " at " + x.about(2) + ", " + what, () -> x.note(a, 0, w), want[what]);
        }
    }

    private static void expiredClaims() {
        // With the lifetime 1 a claim is expired as soon as its step is over.
        ClaimedTasks x = Scene.loaded("C01a000000t03009");
        x.step(1);
        noteIs(x, 0, 1, 0, 3, 1);
        CHECK.due("an expired claim is none to have", x.agent(0, 4), -9);
        CHECK.due("nor one of the task", x.task(0, 6), 0);
        x.step(1);
        noteIs(x, 0, 1, 0, 2, 2);
    }

    private static void wrongInputs() {
        ClaimedTasks x = Scene.loaded(TWO);
        x.step(1);
        for (int bad : new int[] {-1, 8, Integer.MIN_VALUE, Integer.MAX_VALUE}) {
            SCENE.refused(x, "about " + bad, () -> x.about(bad), IllegalArgumentException.class);
            SCENE.refused(x, "agent what " + bad, () -> x.agent(1, bad), IllegalArgumentException.class);
            SCENE.refused(x, "agent " + bad, () -> x.agent(bad, 0), IndexOutOfBoundsException.class);
            SCENE.refused(x, "task what " + bad, () -> x.task(0, bad), IllegalArgumentException.class);
            SCENE.refused(x, "task " + bad, () -> x.task(bad, 0), IndexOutOfBoundsException.class);
            SCENE.refused(x, "note agent " + bad, () -> x.note(bad, 0, 0), IndexOutOfBoundsException.class);
            SCENE.refused(x, "note task " + bad, () -> x.note(0, bad, 0), IndexOutOfBoundsException.class);
            SCENE.refused(x, "note what " + bad, () -> x.note(0, 0, bad), IllegalArgumentException.class);
        }
        CHECK.throwsDue("task what 7", () -> x.task(0, 7), IllegalArgumentException.class);
        CHECK.throwsDue("note what 4", () -> x.note(0, 0, 4), IllegalArgumentException.class);
        CHECK.throwsDue("note what -1", () -> x.note(0, 0, -1), IllegalArgumentException.class);
        CHECK.throwsDue("the third of two agents", () -> x.agent(2, 0), IndexOutOfBoundsException.class);
        CHECK.throwsDue("the second of one task", () -> x.task(1, 0), IndexOutOfBoundsException.class);
        CHECK.throwsDue("note of a third agent", () -> x.note(2, 0, 0), IndexOutOfBoundsException.class);
        CHECK.throwsDue("note of a second task", () -> x.note(0, 1, 0), IndexOutOfBoundsException.class);
        CHECK.throwsDue("agent: the index comes first", () -> x.agent(2, 8), IndexOutOfBoundsException.class);
        CHECK.throwsDue("task: the index comes first", () -> x.task(1, 7), IndexOutOfBoundsException.class);
        CHECK.throwsDue("note: the index comes first", () -> x.note(0, 1, 4), IndexOutOfBoundsException.class);
    }
}
