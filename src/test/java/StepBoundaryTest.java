import java.util.Arrays;

/** Boundary cases of the document's section A STEP, and of promise 10 (step). */
public final class StepBoundaryTest extends Boundary {
    public static void main(String[] args) {
        runAll(StepBoundaryTest.class);
    }

    private static void noteIs(String when, ClaimedTasks x, int a, int t, int... want) {
        NoteBoundaryTest.noteIs(when, x, a, t, want);
    }

    private static void placeIs(String when, ClaimedTasks x, int a, int column, int row) {
        due(when + ": column of " + a, x.agent(a, 0), column);
        due(when + ": row of " + a, x.agent(a, 1), row);
    }

    private static String allButTheClock(ClaimedTasks x) {
        int[] all = Scene.allOf(x);
        all[2] = 0;
        return Arrays.toString(all);
    }

    // ---- who acts, and in which order

    @Sentence(promise = 0, value = "In a step, only agents that are on do something, in three parts;")
    static void whoIsOffDoesNothing() {
        // Agent 1 is off with a claim that expires, a task to walk to and somebody to hear.
        ClaimedTasks x = Scene.loaded("C02a000022a020022t01009t05009");
        x.step(1);
        x.toggle(1);
        int[] agent = new int[7];
        for (int what = 0; what < 7; what++) {
            agent[what] = what == 4 ? NONE : x.agent(1, what);
        }
        x.step(9);
        for (int what = 0; what < 7; what++) {
            due("agent(1, " + what + ")", x.agent(1, what), agent[what]);
        }
        noteIs("its old claim", x, 1, 0, 1, 1, 1, 2);
        noteIs("its empty note", x, 1, 1, 0);
    }

    @Sentence(promise = 0, value = "In a step, only agents that are on do something, in three parts;")
    static void whoIsOffIsNotCompared() {
        // Agent 1 knows that task 0 is finished, but is off: agent 0 has to find it out.
        ClaimedTasks x = Scene.loaded("C09a020022a000022t00001");
        x.toggle(0);
        x.step(1);
        x.toggle(1);
        x.toggle(0);
        x.step(2);
        due("it walks to the task", x.agent(0, 5), 2);
        x.step(1);
        due("and wastes a step", x.agent(0, 6), 1);
    }

    @Sentence(promise = 0, value = "In a step, only agents that are on do something, in three parts;")
    static void withNobodyOnOnlyTheClockGoes() {
        ClaimedTasks x = Scene.loaded(TWO);
        x.step(1);
        x.toggle(0);
        x.toggle(1);
        String before = allButTheClock(x);
        due("step", x.step(3), 0);
        due("clock", x.about(2), 4);
        same("all but the clock", allButTheClock(x), before);
    }

    @Sentence(promise = 0, value = "in each part all of them act one after the other, in ascending order.")
    static void theSmallerAgentWorksFirst() {
        ClaimedTasks x = Scene.loaded("C05a000000a000000a000000t00002");
        due("step", x.step(1), 1);
        for (int a = 0; a < 3; a++) {
            due("wasted by " + a, x.agent(a, 6), a == 2 ? 1 : 0);
            due("note of " + a, x.note(a, 0, 0), a == 0 ? 1 : 2);
        }
        ClaimedTasks y = Scene.loaded("C05a000000a000000a000000t00002");
        y.toggle(0);
        due("step without agent 0", y.step(1), 1);
        due("nothing is wasted", y.about(6), 0);
        due("agent 1 was not the last", y.note(1, 0, 0), 1);
        due("agent 2 was", y.note(2, 0, 0), 2);
    }

    // ---- part 1

    @Sentence(promise = 0, value = "compares its note of each task with those of all agents that it hears,")
    static void heardAtTheRangeAndNotBeyond() {
        // Agent 1 comes into the range of agent 0 by its first move, and hears it in the second step.
        ClaimedTasks x = Scene.loaded("C05a000002a030022t00009");
        x.step(1);
        noteIs("at 1", x, 1, 0, 1, 1, 3, 5);
        placeIs("at 1", x, 1, 2, 0);
        x.step(1);
        noteIs("at 2", x, 1, 0, 1, 0, 0, 5);
        placeIs("at 2", x, 1, 2, 0);
        // With the range 1 it hears it a step later.
        ClaimedTasks y = Scene.loaded("C05a000001a030022t00009");
        y.step(2);
        noteIs("range 1, at 2", y, 1, 0, 1, 1, 2, 6);
        y.step(1);
        noteIs("range 1, at 3", y, 1, 0, 1, 0, 0, 6);
    }

    @Sentence(promise = 0, value = "compares its note of each task with those of all agents that it hears,")
    static void eachTaskFromTheFirstToTheLast() {
        // Agent 1 does task t where agent 0, which has nothing to hear from others, can't see it.
        for (int t = 0; t < 8; t++) {
            ClaimedTasks x = Scene.loaded("C20a110022a000022" + "t11009".repeat(t) + "t00001" + "t11009".repeat(7 - t));
            x.step(1);
            due("not known at 1", x.task(t, 5), 2);
            x.step(1);
            due("known at 2", x.task(t, 5), 3);
        }
    }

    @Sentence(promise = 0, value = "as they all were before the step,")
    static void knowledgeGoesOneHopAStep() {
        for (String places : new String[] {"a000002a020002a040002t00001", "a040002a020002a000002t00001"}) {
            ClaimedTasks x = Scene.loaded("C05" + places);
            int first = x.agent(0, 0) == 0 ? 0 : 2;
            x.step(1);
            due("one knows", x.task(0, 5), 1 << first);
            x.step(1);
            due("two know", x.task(0, 5), 1 << first | 2);
            x.step(1);
            due("all know", x.task(0, 5), 7);
        }
    }

    @Sentence(promise = 0, value = "as they all were before the step,")
    static void aClaimOfThisStepIsHeardInTheNext() {
        ClaimedTasks x = Scene.loaded("C05a000022a110022t00009t11009");
        x.step(1);
        noteIs("agent 1 at 1", x, 1, 0, 0);
        x.step(1);
        noteIs("agent 1 at 2", x, 1, 0, 1, 0, 0, 5);
        noteIs("agent 0 has renewed it meanwhile", x, 0, 0, 1, 0, 0, 6);
    }

    @Sentence(promise = 0, value = "takes the best one of all (its own one, if no other one is better;")
    static void theBestOfAllWhereverItStands() {
        int[][] columns = {{5, 2, 1}, {5, 1, 2}, {1, 5, 2}};
        int[] best = {2, 1, 0};
        for (int i = 0; i < 3; i++) {
            ClaimedTasks x = Scene.loaded(String.format("C05a%02d0022a%02d0022a%02d0022t00009",
                    columns[i][0], columns[i][1], columns[i][2]));
            x.step(2);
            for (int a = 0; a < 3; a++) {
                due("owner in the note of " + a, x.note(a, 0, 1), best[i]);
                due("own task of " + a, x.agent(a, 4), a == best[i] ? 0 : NONE);
            }
        }
    }

    @Sentence(promise = 0, value = "(its own one, if no other one is better; among several others the one of the"
            + " smallest agent).")
    static void ofEqualClaimsAnyIsTheSame() {
        // Agents 0 and 1 have the same distance: agent 2 takes the claim of agent 0, which stays its own.
        ClaimedTasks x = Scene.loaded("C05a010022a000122a050022t00009");
        x.step(2);
        noteIs("agent 2", x, 2, 0, 1, 0, 1, 5);
        noteIs("agent 0", x, 0, 0, 1, 0, 0, 6);
        // At 3, agent 2 hears the claim from agent 0 and, older, from agent 1.
        x.step(1);
        noteIs("agent 2 at 3", x, 2, 0, 1, 0, 0, 6);
    }

    @Sentence(promise = 0, value = "An expired claim becomes empty.")
    static void anExpiredClaimBecomesEmptyInTheStepAtItsExpiry() {
        // Agent 1 has a claim of its own, and the note of a claim of agent 0, which falls out.
        ClaimedTasks x = Scene.loaded("C03a000022a050022t00009t05009");
        x.step(2);
        x.toggle(0);
        noteIs("at 2", x, 1, 0, 1, 0, 0, 3);
        x.step(1);
        noteIs("at 3, after the last step with it", x, 1, 0, 1, 0, 0, 3);
        x.step(1);
        noteIs("at 4, after the step at 3", x, 1, 0, 0);
        due("its own claim is kept", x.agent(1, 4), 1);
    }

    @Sentence(promise = 0, value = "An expired claim becomes empty.")
    static void soDoesAClaimThatHasLongBeenExpired() {
        // Agent 1 sleeps with its own claim of task 1 and that of agent 0 of task 0, with the expiry 3.
        for (int slept = 1; slept <= 4; slept++) {
            ClaimedTasks x = Scene.loaded("C03a000022a050022t00009t05009");
            x.step(2);
            x.toggle(0);
            x.toggle(1);
            x.step(slept);
            x.put(1, 11, 11);
            x.toggle(1);
            noteIs("before", x, 1, 0, 1, 0, 0, 3);
            x.step(1);
            due("kind after " + slept, x.note(1, 0, 0), 0);
            due("its own claim is kept, or made anew", x.agent(1, 4), 1);
        }
    }

    // ---- part 2

    /** Agent 0 stands at (1, 0) and owns task 1 by a handover, task 0 by what agent 1 still believes. */
    private static ClaimedTasks ownerOfTwo() {
        ClaimedTasks x = Scene.loaded("C09a000022a050022t01009t07009");
        x.step(2);
        x.drop(0);
        x.handOver(1, 0);
        return x;
    }

    @Sentence(promise = 0, value = "If it is the owner of several of its claims, it keeps the one with the task"
            + " that is nearest to it now")
    static void ofSeveralClaimsTheNearestNow() {
        // Task 0 is at column 1, task 1 at column 7: up to column 4 task 0 is kept.
        for (int column = 0; column <= 11; column++) {
            ClaimedTasks x = ownerOfTwo();
            x.put(0, column, 0);
            x.step(1);
            int kept = column <= 4 ? 0 : 1;
            int way = Math.abs(column - (kept == 0 ? 1 : 7));
            due("own task from column " + column, x.agent(0, 4), kept);
            noteIs("the claim that is kept", x, 0, kept, 1, 0, way, 11);
            noteIs("the other one", x, 0, 1 - kept, 0);
        }
    }

    @Sentence(promise = 0, value = "(among several the smallest task), and its other ones become empty.")
    static void ofSeveralAsNearTheSmallest() {
        ClaimedTasks x = ownerOfTwo();
        x.put(0, 4, 0);
        x.step(1);
        due("own task", x.agent(0, 4), 0);
        noteIs("the other one", x, 0, 1, 0);
        placeIs("towards task 0", x, 0, 3, 0);
    }

    /** Agent 1 believes in claims of agent 0 for tasks 0 and 1, and agent 0 has one for task 2. */
    private static ClaimedTasks ownerOfThree() {
        ClaimedTasks x = Scene.loaded("C20a000022a110022t00009t01009t02009t11009");
        x.step(2);
        for (int column = 1; column <= 2; column++) {
            x.drop(0);
            x.setRange(0, 0);
            x.put(0, column, 0);
            x.step(1);
            due("alone, it claims task " + column, x.agent(0, 4), column);
            x.setRange(0, 22);
            if (column == 1) {
                x.step(1);
            }
        }
        return x;
    }

    @Sentence(promise = 0, value = "and its other ones become empty.")
    static void allOtherClaimsBecomeEmpty() {
        for (int kept = 0; kept < 3; kept++) {
            ClaimedTasks x = ownerOfThree();
            due("agent 1 believes in task 0", x.note(1, 0, 1), 0);
            due("agent 1 believes in task 1", x.note(1, 1, 1), 0);
            x.put(0, kept, 0);
            x.step(1);
            for (int t = 0; t < 3; t++) {
                due("kind of note " + t + " if " + kept + " is kept", x.note(0, t, 0), t == kept ? 1 : 0);
            }
            due("own task", x.agent(0, 4), kept);
        }
    }

    @Sentence(promise = 0, value = "Then, if it has a claim, the claim gets the present distance of the agent"
            + " from the task, and the expiry (clock + lifetime).")
    static void aClaimIsRenewedInTime() {
        for (int lifetime = 1; lifetime <= 20; lifetime++) {
            ClaimedTasks x = Scene.loaded(String.format("C%02da000000t03009", lifetime));
            for (int clock = 0; clock < 5; clock++) {
                x.step(1);
                noteIs("lifetime " + lifetime, x, 0, 0, 1, 0, Math.max(0, 3 - clock), clock + lifetime);
            }
        }
        // A claim that would expire next is renewed, though another task is nearer now.
        ClaimedTasks y = Scene.loaded("C02a000000t00039t11119");
        y.step(1);
        y.put(0, 11, 11);
        y.step(1);
        noteIs("kept, from far away", y, 0, 0, 1, 0, 19, 3);
        // One that is expired is lost: the nearest task is claimed.
        ClaimedTasks z = Scene.loaded("C01a000000t00039t11119");
        z.step(1);
        z.put(0, 11, 11);
        z.step(1);
        noteIs("lost", z, 0, 0, 0);
        noteIs("claimed", z, 0, 1, 1, 0, 0, 2);
    }

    @Sentence(promise = 0, value = "If it has none, and one of its notes is empty, it claims the nearest task with"
            + " an empty note")
    static void theNearestTaskWithAnEmptyNote() {
        ClaimedTasks x = Scene.loaded("C05a040400t04079t04069t04059");
        x.step(1);
        noteIs("the nearest is the last", x, 0, 2, 1, 0, 1, 5);
        noteIs("the others stay empty", x, 0, 0, 0);
        noteIs("the others stay empty", x, 0, 1, 0);
        // The nearest is finished, the next one is claimed by another agent: the third is taken.
        ClaimedTasks y = Scene.loaded("C09a050022a060022t05001t06009t09009");
        y.step(1);
        noteIs("it knows of task 0", y, 0, 0, 2);
        y.step(1);
        noteIs("it believes in agent 1", y, 0, 1, 1, 1, 0, 9);
        noteIs("it claims task 2", y, 0, 2, 1, 0, 4, 10);
    }

    @Sentence(promise = 0, value = "If it has none, and one of its notes is empty, it claims the nearest task with"
            + " an empty note")
    static void withoutAnEmptyNoteItClaimsNothing() {
        // The only task is claimed by agent 0, which is nearer.
        ClaimedTasks x = Scene.loaded(TWO);
        x.step(3);
        due("own task of 1", x.agent(1, 4), NONE);
        placeIs("it stays", x, 1, 2, 0);
        due("moves", x.agent(1, 5), 1);
        // The only task is finished.
        ClaimedTasks y = Scene.loaded("C05a000000t00001");
        y.step(1);
        String before = allButTheClock(y);
        y.step(5);
        same("all but the clock", allButTheClock(y), before);
        // There are no tasks.
        ClaimedTasks z = Scene.loaded("C05a030300");
        z.step(5);
        placeIs("without tasks", z, 0, 3, 3);
        due("moves without tasks", z.agent(0, 5), 0);
    }

    @Sentence(promise = 0, value = "(among several the smallest one): the note becomes a claim with itself as the"
            + " owner, its distance from the task, and the expiry (clock + lifetime).")
    static void ofSeveralAsNearItClaimsTheSmallest() {
        ClaimedTasks x = Scene.loaded("C07a040400t04079t06049t04069t02049t04029");
        x.step(1);
        for (int t = 0; t < 5; t++) {
            due("kind of note " + t, x.note(0, t, 0), t == 1 ? 1 : 0);
        }
        noteIs("the claim", x, 0, 1, 1, 0, 2, 7);
        ClaimedTasks y = Scene.loaded("C05a000000" + "t00009".repeat(8));
        y.step(1);
        due("of eight in one place", y.agent(0, 4), 0);
    }

    // ---- part 3

    @Sentence(promise = 0, value = "if it is at the place of its own task and the task is finished, its note says"
            + " that it is finished, and its wasted steps increase by 1;")
    static void toComeTooLateIsWasted() {
        // Agent 0 finishes task 0 in the first step and is taken away; agent 1 comes there.
        ClaimedTasks x = Scene.loaded("C09a000000a010000t00001");
        x.step(1);
        x.put(0, 9, 9);
        due("agent 1 is there, and has wasted nothing yet", x.agent(1, 6), 0);
        noteIs("it has its claim", x, 1, 0, 1, 1, 1, 9);
        due("step", x.step(1), 1);
        due("one step is wasted", x.agent(1, 6), 1);
        noteIs("it knows", x, 1, 0, 2);
        due("the progress stays", x.task(0, 3), 1);
        x.step(1);
        due("no more is wasted", x.agent(1, 6), 1);
        due("agent 0 wasted nothing", x.agent(0, 6), 0);
    }

    @Sentence(promise = 0, value = "if it is there and the task is not finished, the progress increases by 1, and"
            + " if the task is finished then, its note says so.")
    static void theLastUnitOfWork() {
        ClaimedTasks x = Scene.loaded("C05a000000t00009");
        for (int n = 1; n <= 8; n++) {
            x.step(1);
            due("progress", x.task(0, 3), n);
            due("a claim still", x.note(0, 0, 0), 1);
        }
        x.step(1);
        due("progress at last", x.task(0, 3), 9);
        noteIs("finished", x, 0, 0, 2);
        due("it did not move", x.agent(0, 5), 0);
        due("it wasted nothing", x.agent(0, 6), 0);
    }

    @Sentence(promise = 0, value = "If it is not there, it goes one place towards the task: its column changes by 1"
            + " if the columns differ, otherwise its row; and its moves increase by 1.")
    static void columnsFirstThenRows() {
        int[][] towards = {{6, 6}, {6, 4}, {4, 6}, {4, 4}, {5, 6}, {5, 4}, {6, 5}, {4, 5}};
        for (int[] to : towards) {
            ClaimedTasks x = Scene.loaded(String.format("C05a050500t%02d%02d9", to[0], to[1]));
            x.step(1);
            placeIs("first move towards " + Arrays.toString(to), x, 0, to[0], to[0] == 5 ? to[1] : 5);
            due("moves", x.agent(0, 5), 1);
            due("no work yet", x.task(0, 3), 0);
            x.step(1);
            placeIs("second step towards " + Arrays.toString(to), x, 0, to[0], to[1]);
            due("moves or work", x.agent(0, 5), Math.abs(to[0] - 5) + Math.abs(to[1] - 5));
        }
        // One place away, it arrives and does not work in the same step.
        ClaimedTasks y = Scene.loaded("C05a000000t00011");
        due("it arrives", y.step(1), 0);
        due("it works", y.step(1), 1);
    }

    @Sentence(promise = 0, value = "Then the clock increases by 1.")
    static void theClockGoesWithoutAgentsToo() {
        ClaimedTasks x = new ClaimedTasks();
        x.step(1);
        due("a new object", x.about(2), 1);
        x.step(99);
        due("100 steps", x.about(2), 100);
        ClaimedTasks y = Scene.loaded(TWO);
        y.step(1);
        due("two agents", y.about(2), 1);
    }

    // ---- promise 10

    @Sentence(promise = 10, value = "Makes steps, one after the other.")
    static void manyStepsAreAsManySingleOnes() {
        for (int n : new int[] {1, 2, 98, 99}) {
            ClaimedTasks x = Scene.loaded("C03a000005a110004a051106t00009t11119t05059");
            ClaimedTasks y = Scene.loaded("C03a000005a110004a051106t00009t11119t05059");
            x.step(n);
            for (int i = 0; i < n; i++) {
                y.step(1);
            }
            same(n + " steps", Arrays.toString(Scene.allOf(x)), Arrays.toString(Scene.allOf(y)));
        }
    }

    @Sentence(promise = 10, value = "(Together they are one action.)")
    static void ninetyNineStepsAreOneAction() {
        ClaimedTasks x = Scene.loaded(TWO);
        x.step(99);
        due("undo", x.undo(), 0);
        due("clock", x.about(2), 0);
        ClaimedTasks y = Scene.loaded(TWO);
        for (int i = 0; i < 14; i++) {
            y.step(7);
        }
        due("undo of 14", y.undo(), 13);
        due("clock of 14", y.about(2), 91);
    }

    @Sentence(promise = 10, value = "`n`: number of steps, 1 to 99")
    static void oneStepAndNinetyNine() {
        ClaimedTasks x = Scene.loaded(TWO);
        due("the fewest", x.step(1), 0);
        due("clock", x.about(2), 1);
        due("the most", x.step(99), 1);
        due("clock", x.about(2), 100);
    }

    @Sentence(promise = 10, value = "Returns the number of finished tasks then.")
    static void from0To8FinishedTasks() {
        ClaimedTasks x = Scene.loaded("C05a000000" + "t00001".repeat(8));
        for (int n = 1; n <= 8; n++) {
            due("finished after " + n, x.step(1), n);
        }
        due("no more", x.step(99), 8);
        due("none", new ClaimedTasks().step(99), 0);
        // The eighth task is finished by the very last of 99 steps.
        ClaimedTasks y = ForecastBoundaryTest.longWay(8);
        y.step(51);
        due("after 98", y.step(98), 7);
        y.undo();
        due("after 99", y.step(99), 8);
    }

    @Sentence(promise = 10, value = "Throws `IllegalArgumentException` if n is out of range")
    static void wrongNumbersOfSteps() {
        for (int bad : outside(1, 99)) {
            refused("step(" + bad + ")", Boundary::busy, x -> x.step(bad), ARGUMENT);
            refused("step(" + bad + ") of many", Boundary::full, x -> x.step(bad), ARGUMENT);
            refused("step(" + bad + ") of nobody", ClaimedTasks::new, x -> x.step(bad), ARGUMENT);
        }
    }
}
