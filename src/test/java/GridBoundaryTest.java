/** Boundary cases of what the document says before promise 1: its limits, GRID, AGENTS, TASKS. */
public final class GridBoundaryTest extends Boundary {
    private static final String CORNERS = "C05a000000a110000a001100a111100t00001t11002t00113t11119";

    public static void main(String[] args) {
        runAll(GridBoundaryTest.class);
    }

    @Sentence(promise = 0, value = "An object is used for at most 512 calls after it has been made")
    static void the512thCallIsStillAnswered() {
        ClaimedTasks x = Scene.typed("C05a000022a030022t01009");
        x.load();
        for (int call = 25; call <= 508; call++) {
            x.step(99);
        }
        due("509th call: finishedAfter", x.finishedAfter(1), 0);
        due("510th call: step", x.step(99), 1);
        due("511th call: undo", x.undo(), 13);
        due("512th call: clock", x.about(2), 484 * 99);
    }

    @Sentence(promise = 0, value = "`NONE = -9`: There is no such result.")
    static void noneIsMinus9() {
        due("NONE", ClaimedTasks.NONE, -9);
        due("an answer of NONE", new ClaimedTasks().worstLoss(1), ClaimedTasks.NONE);
    }

    @Sentence(promise = 0, value = "The grid has 12 columns and 12 rows, numbered from 0.")
    static void placesGoFrom0To11() {
        ClaimedTasks x = Scene.loaded(CORNERS);
        for (int i = 0; i < 4; i++) {
            due("column of agent " + i, x.agent(i, 0), i % 2 * 11);
            due("row of agent " + i, x.agent(i, 1), i / 2 * 11);
            due("column of task " + i, x.task(i, 0), i % 2 * 11);
            due("row of task " + i, x.task(i, 1), i / 2 * 11);
        }
        due("put at (11, 11)", x.put(0, 11, 11), 22);
        due("put at (0, 0)", x.put(0, 0, 0), 22);
        refused("put at column 12", GridBoundaryTest::corners, y -> y.put(0, 12, 0), ARGUMENT);
        refused("put at row 12", GridBoundaryTest::corners, y -> y.put(0, 0, 12), ARGUMENT);
        refused("put at column -1", GridBoundaryTest::corners, y -> y.put(0, -1, 0), ARGUMENT);
        refused("put at row -1", GridBoundaryTest::corners, y -> y.put(0, 0, -1), ARGUMENT);
    }

    private static ClaimedTasks corners() {
        return Scene.loaded(CORNERS);
    }

    @Sentence(promise = 0, value = "The grid has 12 columns and 12 rows, numbered from 0.")
    static void agentsWalkToTheEdgeAndStayThere() {
        walksToTheEdge("C20a111100t00001", 0);
        walksToTheEdge("C20a000000t11111", 11);
    }

    private static void walksToTheEdge(String text, int edge) {
        ClaimedTasks x = Scene.loaded(text);
        due("22 moves", x.step(22), 0);
        due("column", x.agent(0, 0), edge);
        due("row", x.agent(0, 1), edge);
        due("work", x.step(1), 1);
        x.step(9);
        due("column at last", x.agent(0, 0), edge);
        due("row at last", x.agent(0, 1), edge);
        due("moves", x.agent(0, 5), 22);
    }

    @Sentence(promise = 0, value = "The distance of two places is the sum of the differences (without sign)"
            + " of their columns and of their rows.")
    static void distancesOfAllPlaces() {
        for (int from = 0; from < 144; from++) {
            ClaimedTasks x = Scene.loaded("C05a000000");
            x.put(0, from / 12, from % 12);
            for (int to = 0; to < 144; to++) {
                int want = Math.abs(from / 12 - to / 12) + Math.abs(from % 12 - to % 12);
                due("from " + from + " to " + to, x.put(0, to / 12, to % 12), want);
                x.put(0, from / 12, from % 12);
            }
        }
    }

    @Sentence(promise = 0, value = "There are at most 6 agents and at most 8 tasks, each numbered from 0.")
    static void sixAgentsAndEightTasks() {
        ClaimedTasks x = Scene.typed("C05" + SIX_AGENTS + EIGHT_TASKS);
        due("load", x.load(), 6);
        due("agents", x.about(0), 6);
        due("tasks", x.about(1), 8);
        due("the first agent", x.agent(0, 0), 0);
        due("the last agent", x.agent(5, 0), 6);
        due("the first task", x.task(0, 0), 0);
        due("the last task", x.task(7, 0), 9);
        due("the last note", x.note(5, 7, 0), 0);
        for (int bad : outside(0, 5)) {
            refused("agent " + bad + " of 6", Boundary::full, y -> y.agent(bad, 0), INDEX);
        }
        for (int bad : outside(0, 7)) {
            refused("task " + bad + " of 8", Boundary::full, y -> y.task(bad, 0), INDEX);
        }
        due("a seventh agent", Scene.typed("C05" + SIX_AGENTS + "a000000").errorPosition(), 45);
        due("a ninth task", Scene.typed("C05" + EIGHT_TASKS + "t00001").errorPosition(), 51);
    }

    @Sentence(promise = 0, value = "An agent has a place, a range from 0 to 22, is on or off, and has a number"
            + " of moves and a number of wasted steps, both 0 at first.")
    static void movesAndWasteAre0AtFirst() {
        // Agent 1 comes too late at task 0, and walks to task 1 until it hears that 0 has it.
        ClaimedTasks x = Scene.loaded("C05a000000a000022t00001t03001");
        x.step(3);
        due("moves of 0", x.agent(0, 5), 2);
        due("moves of 1", x.agent(1, 5), 1);
        due("wasted", x.agent(1, 6), 1);
        x.load();
        for (int a = 0; a < 2; a++) {
            due("moves at first", x.agent(a, 5), 0);
            due("wasted at first", x.agent(a, 6), 0);
            due("on at first", x.agent(a, 3), 1);
        }
        due("range 0", x.agent(0, 2), 0);
        due("range 22", x.agent(1, 2), 22);
    }

    @Sentence(promise = 0, value = "A task has a place, a work from 1 to 9, and a progress, 0 at first;")
    static void workFrom1To9() {
        for (int work = 1; work <= 9; work++) {
            ClaimedTasks x = Scene.loaded("C05t0506" + work);
            due("work", x.task(0, 2), work);
            due("progress at first", x.task(0, 3), 0);
            due("finished at first", x.task(0, 4), 0);
        }
        due("work 0", Scene.typed("C05t05060").errorPosition(), 8);
        due("work 10", Scene.typed("C05t050610").errorPosition(), 9);
        ClaimedTasks y = Scene.loaded("C05a000000t00009");
        y.step(5);
        y.load();
        due("progress after load", y.task(0, 3), 0);
    }

    @Sentence(promise = 0, value = "it is finished if its progress is equal to its work.")
    static void finishedAtTheLastUnit() {
        for (int work = 1; work <= 9; work++) {
            ClaimedTasks x = Scene.loaded("C05a000000t0000" + work);
            for (int n = 1; n <= work + 2; n++) {
                due("finished tasks of work " + work + " after " + n, x.step(1), n >= work ? 1 : 0);
                due("finished", x.task(0, 4), n >= work ? 1 : 0);
                due("progress", x.task(0, 3), Math.min(n, work));
            }
        }
    }

    @Sentence(promise = 0, value = "The lifetime is a number from 1 to 20.")
    static void lifetimeFrom1To20() {
        for (int v = 1; v <= 20; v++) {
            ClaimedTasks x = Scene.loaded(String.format("C%02d", v));
            due("lifetime", x.about(3), v);
            due("lifetime that is set", x.setLifetime(21 - v), v);
            due("lifetime then", x.about(3), 21 - v);
        }
        due("lifetime 00", Scene.typed("C00").errorPosition(), 2);
        due("lifetime 21", Scene.typed("C21").errorPosition(), 2);
        refused("lifetime 0", Boundary::busy, x -> x.setLifetime(0), ARGUMENT);
        refused("lifetime 21", Boundary::busy, x -> x.setLifetime(21), ARGUMENT);
    }

    @Sentence(promise = 0, value = "The clock is 0 at first.")
    static void clockIs0AtFirst() {
        due("clock of a new object", new ClaimedTasks().about(2), 0);
        due("clock of a loaded one", Scene.loaded(TWO).about(2), 0);
        ClaimedTasks x = Scene.loaded(TWO);
        x.step(1);
        due("clock after a step", x.about(2), 1);
        x.load();
        due("clock after a load", x.about(2), 0);
    }

    @Sentence(promise = 0, value = "A new object has no agents and no tasks, and the lifetime 5.")
    static void newObject() {
        ClaimedTasks x = new ClaimedTasks();
        due("agents", x.about(0), 0);
        due("tasks", x.about(1), 0);
        due("lifetime", x.about(3), 5);
    }

    @Sentence(promise = 0, value = "Two different agents hear each other")
    static void nobodyHearsItself() {
        ClaimedTasks x = Scene.loaded("C05" + "a050522".repeat(6));
        for (int a = 0; a < 6; a++) {
            due("all but " + a, x.agent(a, 7), 63 & ~(1 << a));
        }
        due("one alone", Scene.loaded("C05a000022").agent(0, 7), 0);
    }

    @Sentence(promise = 0, value = "if both are on")
    static void whoIsOffNeitherHearsNorIsHeard() {
        ClaimedTasks x = Scene.loaded("C05a050522a050522");
        x.toggle(1);
        due("the other one is off", x.agent(0, 7), 0);
        due("it is off", x.agent(1, 7), 0);
        x.toggle(0);
        due("both are off", x.agent(0, 7) + x.agent(1, 7), 0);
        x.toggle(1);
        due("only the first is off", x.agent(1, 7), 0);
        x.toggle(0);
        due("both are on again", x.agent(0, 7), 2);
    }

    @Sentence(promise = 0, value = "their distance is at most the smaller one of their ranges.")
    static void heardUpToTheSmallerRange() {
        for (int way = 0; way <= 22; way++) {
            ClaimedTasks x = Scene.loaded("C05a000000a000000");
            x.put(1, Math.min(way, 11), Math.max(0, way - 11));
            hears(x, way, way, way, true);
            hears(x, way, way, 22, true);
            hears(x, way, 22, way, true);
            if (way > 0) {
                hears(x, way, way - 1, way - 1, false);
                hears(x, way, way - 1, 22, false);
                hears(x, way, 22, way - 1, false);
            }
        }
    }

    private static void hears(ClaimedTasks x, int way, int range0, int range1, boolean want) {
        x.setRange(0, range0);
        x.setRange(1, range1);
        String told = "distance " + way + ", ranges " + range0 + " and " + range1;
        due("0 hears 1: " + told, x.agent(0, 7), want ? 2 : 0);
        due("1 hears 0: " + told, x.agent(1, 7), want ? 1 : 0);
    }
}
