/** Boundary cases of promises 6 to 9: about, agent, task, note. */
public final class StateBoundaryTest extends Boundary {
    public static void main(String[] args) {
        runAll(StateBoundaryTest.class);
    }

    /** Six agents in one place, of which only agent 0 is needed for the task of work 1 there. */
    private static ClaimedTasks crowd() {
        ClaimedTasks x = Scene.loaded("C05" + "a000000".repeat(6) + "t00001");
        x.step(1);
        return x;
    }

    // ---- promise 6

    @Sentence(promise = 6, value = "0: the number of agents; 1: of tasks;")
    static void numbersOfAgentsAndTasks() {
        asked("agents of nobody", ClaimedTasks::new, x -> x.about(0), 0);
        asked("tasks of nobody", ClaimedTasks::new, x -> x.about(1), 0);
        asked("agents", Boundary::full, x -> x.about(0), 6);
        asked("tasks", Boundary::full, x -> x.about(1), 8);
        ClaimedTasks x = Boundary.full();
        x.toggle(0);
        due("one that is off counts", x.about(0), 6);
        ClaimedTasks y = crowd();
        due("a finished task counts", y.about(1), 1);
    }

    @Sentence(promise = 6, value = "2: the clock; 3: the lifetime;")
    static void clockAndLifetime() {
        asked("clock", Boundary::busy, x -> x.about(2), 3);
        asked("lifetime", Boundary::busy, x -> x.about(3), 5);
        ClaimedTasks x = Scene.loaded("C01");
        due("the shortest lifetime", x.about(3), 1);
        x.setLifetime(20);
        due("the longest lifetime", x.about(3), 20);
        x.step(99);
        due("clock after 99", x.about(2), 99);
    }

    @Sentence(promise = 6, value = "4: the number of finished tasks;")
    static void finishedTasksFrom0To8() {
        ClaimedTasks x = Scene.loaded("C05a000000" + "t00001".repeat(8));
        for (int n = 0; n <= 8; n++) {
            due("finished", x.about(4), n);
            x.step(1);
        }
        due("finished at last", x.about(4), 8);
        ClaimedTasks y = Scene.loaded("C05a000000t00009");
        y.step(8);
        due("one unit is missing", y.about(4), 0);
        // A task counts even if no note says that it is finished: agent 1 hands over its old claim.
        ClaimedTasks z = Scene.loaded("C09a000022a030000t00001");
        z.step(1);
        z.setRange(1, 22);
        z.handOver(1, 0);
        due("nobody knows", z.task(0, 5), 0);
        due("it is finished", z.about(4), 1);
        z.toggle(0);
        z.toggle(1);
        due("nobody is on", z.about(4), 1);
    }

    @Sentence(promise = 6, value = "5: the sum of the moves of all agents; 6: the sum of their wasted steps;")
    static void sumsOfAllAgents() {
        ClaimedTasks x = crowd();
        due("wasted", x.about(6), 5);
        due("moves", x.about(5), 0);
        for (int a = 0; a < 6; a++) {
            x.toggle(a);
        }
        due("wasted by those that are off", x.about(6), 5);
        ClaimedTasks y = Scene.loaded("C05" + "a000000".repeat(6) + "t11111");
        y.step(1);
        due("all have moved", y.about(5), 6);
        y.toggle(3);
        due("one that is off has moved too", y.about(5), 6);
        due("moves of nobody", new ClaimedTasks().about(5), 0);
        due("wasted by nobody", new ClaimedTasks().about(6), 0);
    }

    @Sentence(promise = 6, value = "7: the set of the agents that are on, as a bit set")
    static void theSetOfAllAndOfNone() {
        due("nobody", new ClaimedTasks().about(7), 0);
        ClaimedTasks x = Boundary.full();
        due("all", x.about(7), 63);
        for (int a = 0; a < 6; a++) {
            x.toggle(a);
            due("without the first " + (a + 1), x.about(7), 63 >> a + 1 << a + 1);
        }
        x.toggle(5);
        due("the last alone", x.about(7), 32);
    }

    @Sentence(promise = 6, value = "Throws `IllegalArgumentException` if what is not 0 to 7")
    static void otherNumbersOfTheWhole() {
        for (int bad : outside(0, 7)) {
            refused("about(" + bad + ")", Boundary::busy, x -> x.about(bad), ARGUMENT);
            refused("about(" + bad + ") of nobody", ClaimedTasks::new, x -> x.about(bad), ARGUMENT);
        }
    }

    // ---- promise 7

    @Sentence(promise = 7, value = "0: its column; 1: its row; 2: its range; 3: 1 if it is on, 0 if it is off;")
    static void placeRangeAndSwitch() {
        ClaimedTasks x = Scene.loaded("C05a001100a110022");
        int[][] want = {{0, 11, 0, 1}, {11, 0, 22, 1}};
        for (int a = 0; a < 2; a++) {
            for (int what = 0; what < 4; what++) {
                due("agent(" + a + ", " + what + ")", x.agent(a, what), want[a][what]);
            }
        }
        x.toggle(1);
        due("off", x.agent(1, 3), 0);
        due("the other one is on", x.agent(0, 3), 1);
        for (int what = 0; what < 8; what++) {
            int w = what;
            asked("agent(0, " + what + ")", Boundary::busy, y -> y.agent(0, w), busy().agent(0, what));
        }
    }

    @Sentence(promise = 7, value = "4: its own task (NONE if it has no claim;")
    static void ownTaskOrNone() {
        ClaimedTasks x = Scene.loaded("C01a000000t05009");
        due("no claim yet", x.agent(0, 4), NONE);
        x.step(1);
        due("a claim that has just expired", x.agent(0, 4), NONE);
        x.setLifetime(2);
        x.step(1);
        due("a claim that expires at the next clock", x.agent(0, 4), 0);
        x.drop(0);
        due("dropped", x.agent(0, 4), NONE);
        due("finished", crowd().agent(0, 4), NONE);
    }

    // No run of calls leaves an agent with several live claims: a step ends with one at most, and
    // handOver wants b to have none. The nearest case is an expired claim beside a live one.
    @Sentence(promise = 7, value = "if it is the owner of several of its claims, the smallest of their tasks);")
    static void anExpiredClaimOfASmallerTaskDoesNotCount() {
        // Agent 1 has an expired claim of task 0, and a live one of task 1 that is handed over to it.
        ClaimedTasks x = Scene.loaded("C03a110022a000022t00009t11009");
        x.step(1);
        x.toggle(1);
        x.step(2);
        x.toggle(1);
        due("handOver", x.handOver(0, 1), 1);
        due("an expired claim of its own", x.note(1, 0, 1), 1);
        due("own task", x.agent(1, 4), 1);
    }

    @Sentence(promise = 7, value = "5: its moves; 6: its wasted steps;")
    static void movesAndWaste() {
        ClaimedTasks x = crowd();
        for (int a = 0; a < 6; a++) {
            due("wasted by " + a, x.agent(a, 6), a == 0 ? 0 : 1);
            due("moves of " + a, x.agent(a, 5), 0);
        }
        ClaimedTasks y = Scene.loaded("C20a000000t11111");
        y.step(99);
        due("no more moves than needed", y.agent(0, 5), 22);
        y.put(0, 0, 0);
        due("put is no move", y.agent(0, 5), 22);
    }

    @Sentence(promise = 7, value = "7: the set of the agents that it hears, as a bit set")
    static void allOrNobodyHeard() {
        ClaimedTasks x = crowd();
        due("the first hears all others", x.agent(0, 7), 62);
        due("the last hears all others", x.agent(5, 7), 31);
        x.toggle(3);
        due("but who is off", x.agent(0, 7), 54);
        due("who is off hears nobody", x.agent(3, 7), 0);
        due("alone", Scene.loaded("C05a000022").agent(0, 7), 0);
    }

    @Sentence(promise = 7, value = "Throws `IndexOutOfBoundsException` if there is no such agent")
    static void noSuchAgent() {
        for (int bad : outside(0, 2)) {
            refused("agent(" + bad + ", 0)", Boundary::busy, x -> x.agent(bad, 0), INDEX);
            refused("agent(" + bad + ", 8), the index first", Boundary::busy, x -> x.agent(bad, 8), INDEX);
            refused("agent(" + bad + ", -1), the index first", Boundary::busy, x -> x.agent(bad, -1), INDEX);
        }
        refused("agent(6, 7)", Boundary::full, x -> x.agent(6, 7), INDEX);
        refused("agent(0, 0) of nobody", ClaimedTasks::new, x -> x.agent(0, 0), INDEX);
    }

    @Sentence(promise = 7, value = "Throws `IllegalArgumentException` if what is not 0 to 7")
    static void otherNumbersOfAnAgent() {
        for (int bad : outside(0, 7)) {
            refused("agent(0, " + bad + ")", Boundary::busy, x -> x.agent(0, bad), ARGUMENT);
            refused("agent(5, " + bad + ")", Boundary::full, x -> x.agent(5, bad), ARGUMENT);
        }
    }

    // ---- promise 8

    @Sentence(promise = 8, value = "0: its column; 1: its row; 2: its work; 3: its progress; 4: 1 if it is finished, 0 if"
            + " not;")
    static void placeWorkAndProgress() {
        ClaimedTasks x = Scene.loaded("C05a001100t00112t11009");
        int[][] want = {{0, 11, 2, 0, 0}, {11, 0, 9, 0, 0}};
        for (int n = 0; n <= 2; n++) {
            want[0][3] = n;
            want[0][4] = n == 2 ? 1 : 0;
            for (int t = 0; t < 2; t++) {
                for (int what = 0; what < 5; what++) {
                    due("task(" + t + ", " + what + ") at " + n, x.task(t, what), want[t][what]);
                }
            }
            x.step(1);
        }
        for (int what = 0; what < 7; what++) {
            int w = what;
            asked("task(1, " + what + ")", Boundary::busy, y -> y.task(1, w), busy().task(1, what));
        }
    }

    @Sentence(promise = 8, value = "5: the set of the agents whose note says that it is finished, as a bit set;")
    static void whoKnows() {
        ClaimedTasks x = Scene.loaded("C05" + "a000000".repeat(6) + "t00001");
        due("nobody knows", x.task(0, 5), 0);
        x.step(1);
        due("all know", x.task(0, 5), 63);
        x.toggle(5);
        due("one that is off knows too", x.task(0, 5), 63);
        ClaimedTasks y = Scene.loaded("C05a000000a110000t00001");
        y.step(1);
        due("only agent 0 knows", y.task(0, 5), 1);
        due("no agents", Scene.loaded("C05t00001").task(0, 5), 0);
    }

    @Sentence(promise = 8, value = "6: the set of the agents that are on, are the owner of their own note of this task,"
            + " and this is a claim that is not expired, as a bit set")
    static void whoClaims() {
        ClaimedTasks x = Scene.loaded("C03a000000a010000a020000a030000a040000a050000t00119");
        due("nobody claims", x.task(0, 6), 0);
        x.step(1);
        due("all claim", x.task(0, 6), 63);
        x.toggle(5);
        due("one is off", x.task(0, 6), 31);
        x.toggle(5);
        due("on again, with its old claim", x.task(0, 6), 63);
        // Agent 5 sleeps until its claim, with the expiry 3, is expired.
        x.toggle(5);
        x.step(1);
        x.toggle(5);
        due("at 2 it still has it", x.task(0, 6) & 32, 32);
        x.toggle(5);
        x.step(1);
        x.toggle(5);
        due("at 3 it has not", x.task(0, 6) & 32, 0);
        // Who holds the claim of another one does not claim.
        ClaimedTasks y = Scene.loaded(TWO);
        y.step(2);
        due("agent 1 holds a claim", y.note(1, 0, 0), 1);
        due("only agent 0 claims", y.task(0, 6), 1);
        due("a finished task", crowd().task(0, 6), 0);
    }

    @Sentence(promise = 8, value = "Throws `IndexOutOfBoundsException` if there is no such task")
    static void noSuchTask() {
        for (int bad : outside(0, 1)) {
            refused("task(" + bad + ", 0)", Boundary::busy, x -> x.task(bad, 0), INDEX);
            refused("task(" + bad + ", 7), the index first", Boundary::busy, x -> x.task(bad, 7), INDEX);
            refused("task(" + bad + ", -1), the index first", Boundary::busy, x -> x.task(bad, -1), INDEX);
        }
        refused("task(8, 6)", Boundary::full, x -> x.task(8, 6), INDEX);
        refused("task(0, 0) of nobody", ClaimedTasks::new, x -> x.task(0, 0), INDEX);
    }

    @Sentence(promise = 8, value = "Throws `IllegalArgumentException` if what is not 0 to 6")
    static void otherNumbersOfATask() {
        for (int bad : outside(0, 6)) {
            refused("task(0, " + bad + ")", Boundary::busy, x -> x.task(0, bad), ARGUMENT);
            refused("task(7, " + bad + ")", Boundary::full, x -> x.task(7, bad), ARGUMENT);
        }
    }

    // ---- promise 9

    @Sentence(promise = 9, value = "0: its kind: 0 empty, 1 a claim (expired or not), 2 it says that the task is finished;")
    static void kindsOfNotes() {
        ClaimedTasks x = Scene.loaded("C01a000000t02001");
        due("empty", x.note(0, 0, 0), 0);
        x.step(1);
        due("a claim that is expired", x.note(0, 0, 0), 1);
        x.setLifetime(2);
        x.step(1);
        due("a claim that is not", x.note(0, 0, 0), 1);
        x.step(1);
        due("finished", x.note(0, 0, 0), 2);
        ClaimedTasks y = Scene.loaded("C05a000000t00009");
        y.step(1);
        y.drop(0);
        due("empty again", y.note(0, 0, 0), 0);
    }

    @Sentence(promise = 9, value = "1: the owner; 2: the distance; 3: the expiry of the claim")
    static void numbersOfAClaim() {
        // Agent 5 claims a task 22 places away: the greatest owner and distance, the longest lifetime.
        ClaimedTasks x = Scene.loaded("C20" + "a000000".repeat(5) + "a111122t00009");
        for (int a = 0; a < 5; a++) {
            x.toggle(a);
        }
        x.step(1);
        due("kind", x.note(5, 0, 0), 1);
        due("owner", x.note(5, 0, 1), 5);
        due("distance", x.note(5, 0, 2), 22);
        due("expiry", x.note(5, 0, 3), 20);
        ClaimedTasks y = Scene.loaded("C01a000000t00009");
        y.step(1);
        due("the smallest owner", y.note(0, 0, 1), 0);
        due("the smallest distance", y.note(0, 0, 2), 0);
        due("an expired one has its expiry", y.note(0, 0, 3), 1);
    }

    @Sentence(promise = 9, value = "Returns that number; NONE for 1 to 3 if it is not a claim.")
    static void noneIfItIsNoClaim() {
        ClaimedTasks x = Scene.loaded("C05a000000t00002");
        for (int what = 1; what <= 3; what++) {
            due("empty at first, " + what, x.note(0, 0, what), NONE);
        }
        x.step(1);
        x.drop(0);
        for (int what = 1; what <= 3; what++) {
            due("empty after a claim, " + what, x.note(0, 0, what), NONE);
        }
        x.step(1);
        due("finished", x.note(0, 0, 0), 2);
        for (int what = 1; what <= 3; what++) {
            due("finished after a claim, " + what, x.note(0, 0, what), NONE);
        }
        for (int what = 0; what <= 3; what++) {
            int w = what;
            asked("note(1, 0, " + what + ")", Boundary::busy, y -> y.note(1, 0, w), busy().note(1, 0, what));
        }
    }

    @Sentence(promise = 9, value = "Throws `IndexOutOfBoundsException` if there is no such agent or task")
    static void noSuchNote() {
        for (int bad : outside(0, 2)) {
            refused("note(" + bad + ", 0, 0)", Boundary::busy, x -> x.note(bad, 0, 0), INDEX);
            refused("note(" + bad + ", 0, 4), the index first", Boundary::busy, x -> x.note(bad, 0, 4), INDEX);
        }
        for (int bad : outside(0, 1)) {
            refused("note(0, " + bad + ", 0)", Boundary::busy, x -> x.note(0, bad, 0), INDEX);
            refused("note(0, " + bad + ", -1), the index first", Boundary::busy, x -> x.note(0, bad, -1), INDEX);
            refused("note(9, " + bad + ", 4), the index first", Boundary::busy, x -> x.note(9, bad, 4), INDEX);
        }
        // Numbers that would find another note, if all of them stood in one row.
        refused("note(0, 8, 0)", Boundary::full, x -> x.note(0, 8, 0), INDEX);
        refused("note(1, -1, 0)", Boundary::full, x -> x.note(1, -1, 0), INDEX);
        refused("note(6, -8, 0)", Boundary::full, x -> x.note(6, -8, 0), INDEX);
        refused("note(-1, 8, 0)", Boundary::full, x -> x.note(-1, 8, 0), INDEX);
    }

    @Sentence(promise = 9, value = "Throws `IllegalArgumentException` if what is not 0 to 3")
    static void otherNumbersOfANote() {
        for (int bad : outside(0, 3)) {
            refused("note(0, 0, " + bad + ")", Boundary::busy, x -> x.note(0, 0, bad), ARGUMENT);
            refused("note(5, 7, " + bad + ")", Boundary::full, x -> x.note(5, 7, bad), ARGUMENT);
        }
        // An empty note answers NONE to 1 to 3, and still nothing to 4.
        refused("4 of an empty note", () -> Scene.loaded(TWO), x -> x.note(0, 0, 4), ARGUMENT);
    }
}
