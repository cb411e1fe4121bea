/** Promise 10 and the section A STEP: what steps do, part by part. */
public final class StepTest {
    private static final Check CHECK = new Check();
    private static final Scene SCENE = new Scene(CHECK);

    public static void main(String[] args) {
        walkAndWork();
        severalStepsAreOneAction();
        choice();
        settledByOwner();
        laterExpiryIsBetter();
        knowledgeGoesOneHopAStep();
        lostClaimExpires();
        offAgentsDoNothing();
        severalOwnClaims();
        waste();
        wrongInputs();
        CHECK.end();
    }

    private static void at(ClaimedTasks x, int a, int column, int row) {
        CHECK.due("column of " + a + " at " + x.about(2), x.agent(a, 0), column);
        CHECK.due("row of " + a + " at " + x.about(2), x.agent(a, 1), row);
    }

    private static void walkAndWork() {
        ClaimedTasks x = Scene.loaded("C05a050500t03042");
        CHECK.due("step", x.step(1), 0);
        at(x, 0, 4, 5);
        x.step(1);
        at(x, 0, 3, 5);
        x.step(1);
        at(x, 0, 3, 4);
        CHECK.due("moves", x.agent(0, 5), 3);
        CHECK.due("no work on the way", x.task(0, 3), 0);
        CHECK.due("work", x.step(1), 0);
        CHECK.due("progress 1", x.task(0, 3), 1);
        CHECK.due("claim is renewed", x.note(0, 0, 3), 8);
        CHECK.due("claim has the present distance", x.note(0, 0, 2), 0);
        CHECK.due("finish", x.step(1), 1);
        CHECK.due("it knows", x.note(0, 0, 0), 2);
        CHECK.due("nothing more to do", x.step(99), 1);
        CHECK.due("clock", x.about(2), 104);
        CHECK.due("progress stays", x.task(0, 3), 2);
        CHECK.due("nothing is wasted", x.about(6), 0);
        at(x, 0, 3, 4);
        ClaimedTasks y = Scene.loaded("C05a000000t02011");
        y.step(3);
        at(y, 0, 2, 1);
    }

    private static void severalStepsAreOneAction() {
        ClaimedTasks x = Scene.loaded("C05a000000t03039");
        ClaimedTasks y = Scene.loaded("C05a000000t03039");
        x.step(7);
        for (int i = 0; i < 7; i++) {
            y.step(1);
        }
        CHECK.isTrue("7 steps are 7 steps", java.util.Arrays.equals(Scene.allOf(x), Scene.allOf(y)));
        CHECK.due("one action", x.undo(), 0);
        CHECK.due("seven actions", y.undo(), 6);
        at(x, 0, 0, 0);
        CHECK.due("clock after undo", x.about(2), 0);
    }

    private static void choice() {
        ClaimedTasks x = Scene.loaded("C05a040400t00009t04069t06049t04079");
        x.step(1);
        CHECK.due("the nearest, and of several the smallest", x.agent(0, 4), 1);
        CHECK.due("only one", x.note(0, 2, 0), 0);
        // A claim is kept, though another task is nearer now.
        x.put(0, 0, 0);
        x.step(1);
        CHECK.due("the claim is kept", x.agent(0, 4), 1);
        CHECK.due("distance now", x.note(0, 1, 2), 10);
        at(x, 0, 1, 0);
    }

    private static void settledByOwner() {
        ClaimedTasks x = Scene.loaded("C05a000022a040022t02009");
        x.step(1);
        CHECK.due("both claim", x.task(0, 6), 3);
        x.step(1);
        CHECK.due("the smaller owner has it", x.task(0, 6), 1);
        CHECK.due("and the other one believes it", x.note(1, 0, 1), 0);
        at(x, 1, 3, 0);
        // The smaller distance comes before the smaller owner.
        ClaimedTasks y = Scene.loaded("C05a000022a030022t02009");
        y.step(2);
        CHECK.due("the nearer one has it", y.task(0, 6), 2);
        at(y, 0, 1, 0);
    }

    private static void laterExpiryIsBetter() {
        ClaimedTasks x = Scene.loaded("C05a000022a030022t00009");
        x.step(2);
        CHECK.due("heard at step 2", x.note(1, 0, 3), 5);
        x.step(1);
        CHECK.due("renewed at step 3", x.note(1, 0, 3), 6);
        x.step(3);
        CHECK.due("renewed at step 6", x.note(1, 0, 3), 9);
        // A shorter lifetime gives claims that are not better than the one that 1 took before.
        x.setLifetime(1);
        x.step(2);
        CHECK.due("the later expiry stays", x.note(1, 0, 3), 10);
        CHECK.due("the owner renews with the new lifetime", x.note(0, 0, 3), 8);
    }

    private static void knowledgeGoesOneHopAStep() {
        ClaimedTasks x = Scene.loaded("C05a000002a020002a040002t00001");
        x.step(1);
        CHECK.due("0 knows", x.task(0, 5), 1);
        x.step(1);
        CHECK.due("1 knows", x.task(0, 5), 3);
        CHECK.due("2 took the claim of 1, as it was before", x.note(2, 0, 1), 1);
        x.step(1);
        CHECK.due("2 knows", x.task(0, 5), 7);
    }

    private static void lostClaimExpires() {
        ClaimedTasks x = Scene.loaded("C05a000022a030022t01005");
        x.step(2);
        x.toggle(0);
        CHECK.due("a claim of one that is off", x.conflicts(2), 1);
        x.step(2);
        CHECK.due("it holds until 5", x.conflicts(2), 1);
        CHECK.due("nobody claims", x.task(0, 6), 0);
        x.step(1);
        CHECK.due("at 5 it is expired", x.conflicts(2), 0);
        CHECK.due("and still there", x.note(1, 0, 0), 1);
        x.step(1);
        CHECK.due("then 1 has the claim", x.note(1, 0, 1), 1);
        CHECK.due("with its distance", x.note(1, 0, 2), 1);
        CHECK.due("and its expiry", x.note(1, 0, 3), 10);
        at(x, 1, 1, 0);
        CHECK.due("0 has its old note", x.note(0, 0, 3), 6);
    }

    private static void offAgentsDoNothing() {
        ClaimedTasks x = Scene.loaded("C02a000022a010022t05009");
        x.step(1);
        x.toggle(0);
        x.step(9);
        at(x, 0, 1, 0);
        CHECK.due("the note of one that is off stays", x.note(0, 0, 3), 2);
        CHECK.due("its kind too", x.note(0, 0, 0), 1);
        CHECK.due("its moves", x.agent(0, 5), 1);
        x.toggle(0);
        x.step(1);
        CHECK.due("on again, it takes what it hears", x.note(0, 0, 1), 1);
    }

    /** Agent 0 owns task 0 by agent 1's note and task 1 by a handover: it keeps the nearer one. */
    private static ClaimedTasks ownerOfTwo() {
        ClaimedTasks x = Scene.loaded("C09a000022a050022t01009t07009");
        x.step(2);
        CHECK.due("drop", x.drop(0), 1);
        CHECK.due("handOver", x.handOver(1, 0), 1);
        return x;
    }

    private static void severalOwnClaims() {
        ClaimedTasks x = ownerOfTwo();
        x.step(1);
        CHECK.due("keeps task 0", x.agent(0, 4), 0);
        CHECK.due("renews it", x.note(0, 0, 3), 11);
        CHECK.due("with its distance", x.note(0, 0, 2), 0);
        CHECK.due("the other one is empty", x.note(0, 1, 0), 0);
        CHECK.due("works", x.task(0, 3), 2);
        CHECK.due("1 believes in 0", x.note(1, 1, 1), 0);
        CHECK.due("and has none", x.agent(1, 4), -9);
        ClaimedTasks y = ownerOfTwo();
        y.put(0, 6, 0);
        y.step(1);
        CHECK.due("keeps the nearer task 1", y.agent(0, 4), 1);
        CHECK.due("renews that", y.note(0, 1, 2), 1);
        CHECK.due("task 0 is empty", y.note(0, 0, 0), 0);
        at(y, 0, 7, 0);
        ClaimedTasks z = ownerOfTwo();
        z.put(0, 4, 0);
        z.step(1);
        CHECK.due("of two as near the smaller", z.agent(0, 4), 0);
        at(z, 0, 3, 0);
    }

    private static void waste() {
        ClaimedTasks x = Scene.loaded("C05a000000a000000t00001");
        CHECK.due("both are there", x.step(1), 1);
        CHECK.due("0 did it", x.agent(0, 6), 0);
        CHECK.due("1 came too late", x.agent(1, 6), 1);
        CHECK.due("both know", x.task(0, 5), 3);
        CHECK.due("progress", x.task(0, 3), 1);
        // Without radio agent 1 walks to a task that is finished.
        ClaimedTasks y = Scene.loaded("C09a000000a030000t00001t00051");
        y.step(3);
        CHECK.due("not yet wasted", y.about(6), 0);
        CHECK.due("1 does not know", y.conflicts(1), 1);
        y.step(1);
        CHECK.due("wasted", y.agent(1, 6), 1);
        CHECK.due("now it knows", y.note(1, 0, 0), 2);
        y.step(1);
        CHECK.due("goes for the other task", y.agent(1, 4), 1);
        at(y, 1, 0, 1);
    }

    private static void wrongInputs() {
        ClaimedTasks x = Scene.loaded("C05a000022a030022t01005");
        x.step(1);
        for (int bad : new int[] {0, -1, 100, Integer.MIN_VALUE, Integer.MAX_VALUE}) {
            SCENE.refused(x, "step " + bad, () -> x.step(bad), IllegalArgumentException.class);
        }
        CHECK.due("a step that throws is no action", x.undo(), 0);
    }
}
