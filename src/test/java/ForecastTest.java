/** Promises 21 to 26: conflicts, finishedAfter, knownAfter, wastedIf, worstLoss, bestShare. */
public final class ForecastTest {
    private static final Check CHECK = new Check();
    private static final Scene SCENE = new Scene(CHECK);
    private static final Class<IndexOutOfBoundsException> INDEX = IndexOutOfBoundsException.class;
    private static final Class<IllegalArgumentException> ARGUMENT = IllegalArgumentException.class;
    // Both hear each other; agent 0 is nearer to the one task.
    private static final String TWO = "C05a000022a030022t01005";

    public static void main(String[] args) {
        conflicts();
        finishedAfter();
        knownAfter();
        upTo150Steps();
        wastedIf();
        worstLoss();
        bestShare();
        bestShareIsTheBest();
        forecastsAreNoActions();
        CHECK.end();
    }

    private static void conflicts() {
        ClaimedTasks x = Scene.loaded(TWO);
        conflictsAre(x, 0, 0, 0);
        x.step(1);
        conflictsAre(x, 1, 0, 0);
        x.toggle(1);
        conflictsAre(x, 0, 0, 0);
        x.toggle(1);
        x.step(1);
        conflictsAre(x, 0, 0, 0);
        x.toggle(0);
        conflictsAre(x, 0, 0, 1);
        x.toggle(1);
        conflictsAre(x, 0, 0, 0);
        x.undo();
        x.undo();
        x.step(4);
        conflictsAre(x, 0, 1, 0);
        x.toggle(1);
        conflictsAre(x, 0, 0, 0);
        x.toggle(1);
        x.step(1);
        conflictsAre(x, 0, 0, 0);
        // Two tasks, each the nearest one of three agents that do not hear each other.
        ClaimedTasks y = Scene.loaded("C05a000000a010000a020000a110000a100000a090000t00091t11091");
        y.step(1);
        conflictsAre(y, 2, 0, 0);
        // Agent 0 keeps the claims of the others, which fall out.
        ClaimedTasks z = Scene.loaded("C09a000022a050022a060022t00009t05009t06009");
        z.step(2);
        z.toggle(2);
        conflictsAre(z, 0, 0, 2);
        z.toggle(1);
        conflictsAre(z, 0, 0, 2);
        for (int bad : new int[] {-1, 3, Integer.MIN_VALUE, Integer.MAX_VALUE}) {
            SCENE.refused(x, "conflicts " + bad, () -> x.conflicts(bad), ARGUMENT);
        }
    }

    private static void conflictsAre(ClaimedTasks x, int doubles, int unknown, int lost) {
        int[] want = {doubles, unknown, lost};
        for (int what = 0; what <= 2; what++) {
            int w = what;
            SCENE.asked(x, "conflicts " + what + " at " + x.about(2), () -> x.conflicts(w), want[what]);
        }
    }

    private static void finishedAfter() {
        ClaimedTasks x = Scene.loaded(TWO);
        SCENE.asked(x, "finishedAfter 0", () -> x.finishedAfter(0), 0);
        SCENE.asked(x, "finishedAfter 1", () -> x.finishedAfter(1), 6);
        SCENE.asked(x, "finishedAfter 2", () -> x.finishedAfter(2), -9);
        SCENE.asked(x, "finishedAfter 8", () -> x.finishedAfter(8), -9);
        x.step(2);
        CHECK.due("two steps later", x.finishedAfter(1), 4);
        x.step(4);
        CHECK.due("at once", x.finishedAfter(1), 0);
        x.undo();
        x.toggle(0);
        // Agent 1 waits until 5, and walks one place: 4 + 4 more.
        CHECK.due("with agent 0 off", x.finishedAfter(1), 8);
        x.toggle(1);
        CHECK.due("with both off", x.finishedAfter(1), -9);
        for (int bad : new int[] {-1, 9, Integer.MIN_VALUE, Integer.MAX_VALUE}) {
            SCENE.refused(x, "finishedAfter " + bad, () -> x.finishedAfter(bad), ARGUMENT);
        }
    }

    private static void knownAfter() {
        ClaimedTasks x = Scene.loaded(TWO);
        SCENE.asked(x, "knownAfter", () -> x.knownAfter(0), 7);
        x.toggle(1);
        CHECK.due("only 0 has to know", x.knownAfter(0), 6);
        x.toggle(0);
        CHECK.due("nobody has to know", x.knownAfter(0), 0);
        ClaimedTasks y = Scene.loaded("C05a000002a020002a040002t00001");
        CHECK.due("hop by hop", y.knownAfter(0), 3);
        y.step(3);
        CHECK.due("known", y.knownAfter(0), 0);
        // Both agents are busy at their own tasks, and never hear of the other one's.
        ClaimedTasks z = Scene.loaded("C05a000000a110000t00009t11009");
        z.step(9);
        z.toggle(1);
        // The agent that is on walks the 11 places, and finds the task finished at its 12th step.
        CHECK.due("by going there", z.knownAfter(1), 12);
        for (int bad : new int[] {-1, 1, 8, Integer.MIN_VALUE, Integer.MAX_VALUE}) {
            SCENE.refused(x, "knownAfter " + bad, () -> x.knownAfter(bad), INDEX);
        }
    }

    /** One agent, held up by a claim in the far corner, goes from task to nearest task. */
    private static ClaimedTasks longWay(int workOfTask0) {
        ClaimedTasks x = Scene.loaded(
                "C20a100000t0000" + workOfTask0 + "t11111t08079t11009t06049t00119t03059t05109");
        x.step(1);
        CHECK.due("it claims the task beside it", x.agent(0, 4), 3);
        CHECK.due("it is put far away", x.put(0, 0, 11), 22);
        return x;
    }

    private static void upTo150Steps() {
        ClaimedTasks x = longWay(8);
        CHECK.due("task 3 first", x.finishedAfter(1), 31);
        CHECK.due("then task 4", x.finishedAfter(2), 49);
        CHECK.due("seven", x.finishedAfter(7), 127);
        CHECK.due("all of them, at the last moment", x.finishedAfter(8), 150);
        CHECK.due("known at the last moment", x.knownAfter(1), 150);
        ClaimedTasks y = longWay(9);
        CHECK.due("seven, a step later", y.finishedAfter(7), 128);
        CHECK.due("too late", y.finishedAfter(8), -9);
        CHECK.due("known too late", y.knownAfter(1), -9);
        y.step(1);
        CHECK.due("in time after a step", y.finishedAfter(8), 150);
    }

    private static void wastedIf() {
        ClaimedTasks x = Scene.loaded("C09a000000a030000t00001t00051");
        SCENE.asked(x, "nobody hears, 3 steps", () -> x.wastedIf(0, 3), 0);
        SCENE.asked(x, "nobody hears, 4 steps", () -> x.wastedIf(0, 4), 1);
        SCENE.asked(x, "nobody hears, 99 steps", () -> x.wastedIf(0, 99), 1);
        SCENE.asked(x, "all hear", () -> x.wastedIf(22, 99), 0);
        CHECK.due("ranges stay", x.agent(0, 2), 0);
        x.step(4);
        CHECK.due("with what is wasted already", x.wastedIf(22, 1), 1);
        for (int bad : new int[] {-1, 23, Integer.MIN_VALUE, Integer.MAX_VALUE}) {
            SCENE.refused(x, "wastedIf range " + bad, () -> x.wastedIf(bad, 1), ARGUMENT);
        }
        for (int bad : new int[] {0, -1, 100, Integer.MIN_VALUE, Integer.MAX_VALUE}) {
            SCENE.refused(x, "wastedIf steps " + bad, () -> x.wastedIf(0, bad), ARGUMENT);
        }
    }

    private static void worstLoss() {
        ClaimedTasks x = Scene.loaded("C05a111122a000022t00009t11112");
        SCENE.asked(x, "1 step: as bad", () -> x.worstLoss(1), 0);
        SCENE.asked(x, "2 steps: as bad", () -> x.worstLoss(2), 0);
        SCENE.asked(x, "3 steps", () -> x.worstLoss(3), 1);
        SCENE.asked(x, "5 steps", () -> x.worstLoss(5), 1);
        SCENE.asked(x, "99 steps: the other one does it all", () -> x.worstLoss(99), 0);
        x.toggle(0);
        CHECK.due("one that is off can't be lost", x.worstLoss(1), 1);
        x.toggle(1);
        CHECK.due("none is on", x.worstLoss(1), -9);
        for (int bad : new int[] {0, -1, 100, Integer.MIN_VALUE, Integer.MAX_VALUE}) {
            SCENE.refused(x, "worstLoss " + bad, () -> x.worstLoss(bad), ARGUMENT);
        }
    }

    private static void shareIs(String name, ClaimedTasks x, int sum, int... tasks) {
        SCENE.asked(x, name + ": sum", () -> x.bestShare(-1), sum);
        for (int a = 0; a < tasks.length; a++) {
            int b = a;
            SCENE.asked(x, name + ": task of " + a, () -> x.bestShare(b), tasks[a]);
        }
    }

    private static void bestShare() {
        shareIs("not each the nearest", Scene.loaded("C05a050000a030000t04001t07001"), 3, 1, 0);
        shareIs("all the same", Scene.loaded("C05a000000a000000t00001t00001t00001"), 0, 0, 1);
        shareIs("as near, the first gets it", Scene.loaded("C05a000000a000000t01001"), 1, 0, -9);
        shareIs("the nearest gets it", Scene.loaded("C05a000000a050000a090000t04001"), 1, -9, 0, -9);
        shareIs("the most get one, though far", Scene.loaded("C05a000000a010000t00001t11111"), 21, 0, 1);
        shareIs("no tasks", Scene.loaded("C05a000000"), 0, -9);
        ClaimedTasks x = Scene.loaded("C05a000000a010000t00001t11111");
        x.toggle(0);
        shareIs("one is off", x, 1, -9, 0);
        x.toggle(0);
        x.step(1);
        CHECK.due("task 0 is finished", x.task(0, 4), 1);
        // Agent 1 has gone to (0, 0) too: both are as far from task 1.
        shareIs("one task is finished", x, 22, 1, -9);
        for (int bad : new int[] {-2, 2, 6, Integer.MIN_VALUE, Integer.MAX_VALUE}) {
            SCENE.refused(x, "bestShare " + bad, () -> x.bestShare(bad), INDEX);
        }
        ClaimedTasks none = new ClaimedTasks();
        CHECK.due("nobody: sum", none.bestShare(-1), 0);
        CHECK.throwsDue("nobody: agent 0", () -> none.bestShare(0), INDEX);
    }

    private static void bestShareIsTheBest() {
        // Two ways have the sum 4: (0, 1) and (1, 0). The first by the tasks is taken.
        shareIs("the first of two", Scene.loaded("C05a000000a010000t02001t03001"), 4, 0, 1);
        // All six in one corner, all eight in the other: every way has the same sum.
        shareIs("the first of very many",
                Scene.loaded("C05" + "a000000".repeat(6) + "t11111".repeat(8)), 132, 0, 1, 2, 3, 4, 5);
        // Each agent stands on a task of its own, in opposite order.
        shareIs("all in opposite order", Scene.loaded("C05a000000a010000a020000a030000a040000a050000"
                + "t11111t11101t05001t04001t03001t02001t01001t00001"), 0, 7, 6, 5, 4, 3, 2);
        shareIs("one in the middle gets none", Scene.loaded("C05a000000a050500a090000t00001t09001"), 0, 0, -9, 1);
        // What was found for many agents must not be left over for few.
        ClaimedTasks x = Scene.loaded("C05" + "a000000".repeat(6) + "t11111".repeat(8));
        x.bestShare(-1);
        x.clearText();
        Scene.type(x, "C05a000000a010000t00001t03001t04001");
        x.load();
        shareIs("few after many", x, 2, 0, 1);
    }

    private static void forecastsAreNoActions() {
        ClaimedTasks x = Scene.loaded(TWO);
        x.step(1);
        x.conflicts(0);
        x.finishedAfter(1);
        x.knownAfter(0);
        x.wastedIf(0, 99);
        x.worstLoss(99);
        x.bestShare(-1);
        x.hops(0, 1);
        x.groups();
        x.rangeNeeded();
        x.runScript(1, 10099);
        x.simulate(1, 60);
        CHECK.due("only the step is remembered", x.undo(), 0);
        CHECK.due("the text is as it was", x.errorPosition(), -9);
    }
}
