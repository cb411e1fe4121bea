import java.util.function.Supplier;
import java.util.function.ToIntFunction;

/** Boundary cases of promises 18 to 26: who hears whom, conflicts, forecasts, the best share. */
public final class ForecastBoundaryTest extends Boundary {
    public static void main(String[] args) {
        runAll(ForecastBoundaryTest.class);
    }

    // ---- promise 18: hops

    /** Six in a row, one place apart, in the order 0, 2, 4, 5, 3, 1. */
    private static ClaimedTasks row() {
        return Scene.loaded("C05a000001a050001a010001a040001a020001a030001");
    }

    @Sentence(promise = 18, value = "these and all following methods up to the save slots change nothing")
    static void questionsChangeNothing() {
        for (Supplier<ClaimedTasks> maker : java.util.List.<Supplier<ClaimedTasks>>of(Boundary::busy, Boundary::full)) {
            changesNothing("hops", maker, x -> x.hops(0, 2));
            changesNothing("groups", maker, ClaimedTasks::groups);
            changesNothing("rangeNeeded", maker, ClaimedTasks::rangeNeeded);
            for (int what = 0; what <= 2; what++) {
                int w = what;
                changesNothing("conflicts", maker, x -> x.conflicts(w));
            }
            changesNothing("finishedAfter", maker, x -> x.finishedAfter(8));
            changesNothing("knownAfter", maker, x -> x.knownAfter(1));
            changesNothing("wastedIf", maker, x -> x.wastedIf(0, 99));
            changesNothing("worstLoss", maker, x -> x.worstLoss(99));
            changesNothing("bestShare of all", maker, x -> x.bestShare(-1));
            changesNothing("bestShare of one", maker, x -> x.bestShare(0));
            for (long script : new long[] {100992000531000L, 100014010050000L, 600007000080000L, 90099}) {
                changesNothing("runScript", maker, x -> x.runScript(3, script));
            }
            changesNothing("simulate", maker, x -> x.simulate(20261118, 60));
        }
    }

    private static void changesNothing(String call, Supplier<ClaimedTasks> maker, ToIntFunction<ClaimedTasks> made) {
        asked(call, maker, made, made.applyAsInt(maker.get()));
        // Asked twice, it answers the same.
        ClaimedTasks x = maker.get();
        due(call + " again", made.applyAsInt(x), made.applyAsInt(x));
    }

    @Sentence(promise = 18, value = "Returns the smallest number of times that a message has to be passed on from an"
            + " agent to one that it hears, from a to b")
    static void fromOneToFiveHops() {
        ClaimedTasks x = row();
        int[] inRow = {0, 2, 4, 5, 3, 1};
        for (int i = 0; i < 6; i++) {
            for (int j = 0; j < 6; j++) {
                due("hops between places " + i + " and " + j, x.hops(inRow[i], inRow[j]), Math.abs(i - j));
            }
        }
        // Ranges that reach two places halve the way: 0 to 5 is 2 + 2 + 1.
        for (int a = 0; a < 6; a++) {
            x.setRange(a, 2);
        }
        due("with longer ranges", x.hops(0, 1), 3);
        x.setRange(0, 5);
        due("the smaller range counts", x.hops(0, 1), 3);
        x.setRange(1, 5);
        due("both reach", x.hops(0, 1), 1);
    }

    @Sentence(promise = 18, value = "(0 if they are the same)")
    static void noHopsToItself() {
        ClaimedTasks x = row();
        x.toggle(3);
        for (int a = 0; a < 6; a++) {
            due("hops from " + a + " to itself", x.hops(a, a), 0);
        }
    }

    @Sentence(promise = 18, value = "NONE if that is impossible.")
    static void noWayAtAll() {
        ClaimedTasks x = row();
        x.toggle(4);
        due("cut by one that is off", x.hops(0, 1), NONE);
        due("before the cut", x.hops(0, 2), 1);
        due("behind the cut", x.hops(5, 1), 2);
        due("to one that is off", x.hops(2, 4), NONE);
        due("from one that is off", x.hops(4, 2), NONE);
        x.toggle(4);
        x.setRange(5, 0);
        due("cut by a range", x.hops(0, 1), NONE);
        due("all but the last", x.hops(0, 4), 2);
    }

    @Sentence(promise = 18, value = "Throws `IndexOutOfBoundsException` if there is no such agent")
    static void hopsOfNoAgent() {
        for (int bad : outside(0, 2)) {
            refused("hops from " + bad, Boundary::busy, x -> x.hops(bad, 0), INDEX);
            refused("hops to " + bad, Boundary::busy, x -> x.hops(0, bad), INDEX);
            refused("hops from " + bad + " to itself", Boundary::busy, x -> x.hops(bad, bad), INDEX);
        }
        for (int bad : outside(0, 5)) {
            refused("hops from " + bad + " of 6", Boundary::full, x -> x.hops(bad, 5), INDEX);
            refused("hops to " + bad + " of 6", Boundary::full, x -> x.hops(5, bad), INDEX);
        }
        refused("hops of nobody", ClaimedTasks::new, x -> x.hops(0, 0), INDEX);
    }

    // ---- promise 19: groups

    @Sentence(promise = 19, value = "Returns the number of groups of agents that are on:")
    static void fromNoGroupToSix() {
        asked("groups of a new object", ClaimedTasks::new, ClaimedTasks::groups, 0);
        for (int n = 0; n <= 6; n++) {
            StringBuilder apart = new StringBuilder("C05");
            for (int a = 0; a < n; a++) {
                apart.append(String.format("a%02d0000", a));
            }
            due(n + " agents apart", Scene.loaded(apart.toString()).groups(), n);
            due(n + " agents together", Scene.loaded("C05" + "a000000".repeat(n)).groups(), n == 0 ? 0 : 1);
        }
        ClaimedTasks x = Scene.loaded("C05a000000a010000a020000");
        for (int a = 0; a < 3; a++) {
            x.toggle(a);
            due("groups without the first " + (a + 1), x.groups(), 2 - a);
        }
    }

    @Sentence(promise = 19, value = "two of them belong to the same group if a message can be passed on from one to"
            + " the other.")
    static void joinedByOthers() {
        ClaimedTasks x = row();
        due("a row", x.groups(), 1);
        x.setRange(4, 0);
        due("cut beside place 2", x.groups(), 3);
        x.toggle(4);
        due("the cut one is off", x.groups(), 2);
        ClaimedTasks y = Scene.loaded("C05a000003a030003");
        due("at the range", y.groups(), 1);
        y.setRange(1, 2);
        due("beyond the range", y.groups(), 2);
        // The last agent joins the two before it.
        due("joined by the last", Scene.loaded("C05a000001a020001a010001").groups(), 1);
    }

    // ---- promise 20: rangeNeeded

    @Sentence(promise = 20, value = "Returns the smallest r such that all agents that are on would belong to one"
            + " group if all of them had the range r")
    static void rangesFrom0To22() {
        for (int way = 0; way <= 22; way++) {
            for (int range : new int[] {0, 22}) {
                ClaimedTasks x = Scene.loaded("C05a000000a000000");
                x.setRange(0, range);
                x.setRange(1, 22 - range);
                x.put(1, Math.min(way, 11), Math.max(0, way - 11));
                due("distance " + way, x.rangeNeeded(), way);
            }
        }
        ClaimedTasks y = Scene.loaded("C05a000022a110022a030022");
        due("the widest gap", y.rangeNeeded(), 8);
        y.toggle(2);
        due("without the one between", y.rangeNeeded(), 11);
        y.toggle(1);
        y.toggle(2);
        due("without the far one", y.rangeNeeded(), 3);
    }

    @Sentence(promise = 20, value = "(0 if at most one is on).")
    static void noRangeForOne() {
        due("nobody", new ClaimedTasks().rangeNeeded(), 0);
        due("one agent", Scene.loaded("C05a111122").rangeNeeded(), 0);
        ClaimedTasks x = Scene.loaded("C05a000022a111122");
        x.toggle(0);
        due("one is on", x.rangeNeeded(), 0);
        x.toggle(1);
        due("none is on", x.rangeNeeded(), 0);
    }

    // ---- promise 21: conflicts

    @Sentence(promise = 21, value = "0: the number of tasks for which the set of task(t, 6) has two or more agents;")
    static void twoOrMoreClaimants() {
        for (int n = 0; n <= 6; n++) {
            StringBuilder apart = new StringBuilder("C05t00119");
            for (int a = 0; a < n; a++) {
                apart.append(String.format("a%02d0000", a));
            }
            ClaimedTasks x = Scene.loaded(apart.toString());
            x.step(1);
            due(n + " claimants", x.conflicts(0), n >= 2 ? 1 : 0);
        }
        ClaimedTasks y = Scene.loaded("C05a000000a010000a050000a060000a100000a110000t00119t05119t11119");
        due("before they claim", y.conflicts(0), 0);
        y.step(1);
        due("three tasks with two each", y.conflicts(0), 3);
        y.toggle(0);
        due("one that is off does not count", y.conflicts(0), 2);
        ClaimedTasks z = Scene.loaded("C01a000000a010000t00119");
        z.step(1);
        due("expired claims do not count", z.conflicts(0), 0);
    }

    @Sentence(promise = 21, value = "1: the number of pairs of an agent that is on and a task that is finished of which"
            + " its note does not say so;")
    static void unknownFinishes() {
        // Agent 5 does both tasks where the others, on their way to far tasks, do not hear of it.
        ClaimedTasks x = Scene.loaded("C20a000000a010000a020000a030000a040000a111100"
                + "t11111t11101t00049t01049t02049t03049t04049");
        x.step(1);
        due("one task, five that do not know", x.conflicts(1), 5);
        x.step(2);
        due("two tasks", x.conflicts(1), 10);
        x.toggle(0);
        due("one that is off does not count", x.conflicts(1), 8);
        x.toggle(5);
        due("nor does one that knows", x.conflicts(1), 8);
        ClaimedTasks y = Scene.loaded("C05a000000a000000t00002");
        due("nothing is finished", y.conflicts(1), 0);
        y.step(1);
        due("agent 0 holds a claim of the finished task", y.conflicts(1), 1);
        y.step(1);
        due("all know", y.conflicts(1), 0);
    }

    @Sentence(promise = 21, value = "2: the number of notes of agents that are on that are claims that are not expired"
            + " and whose owner is off")
    static void claimsOfTheLost() {
        // Agents 1 and 2 hold the claim of agent 0, with the expiry 3.
        ClaimedTasks x = Scene.loaded("C03a000022a050022a110022t00009t05009t11009");
        x.step(2);
        due("nobody is off", x.conflicts(2), 0);
        x.toggle(0);
        due("two hold it", x.conflicts(2), 2);
        x.toggle(1);
        due("agent 2 holds two of such", x.conflicts(2), 2);
        x.toggle(2);
        due("nobody is on", x.conflicts(2), 0);
        ClaimedTasks y = Scene.loaded("C03a000022a050022a110022t00009t05009t11009");
        y.step(2);
        y.toggle(0);
        due("expiry", y.note(1, 0, 3), 3);
        due("at 2", y.conflicts(2), 2);
        y.step(1);
        due("at 3 they are expired", y.conflicts(2), 0);
        // Each of six agents holds the claims of the others: of n that are on, each those of 6 - n.
        ClaimedTasks z = Scene.loaded("C05a000022a010022a020022a030022a040022a050022"
                + "t00009t01009t02009t03009t04009t05009");
        z.step(2);
        for (int n = 5; n >= 0; n--) {
            z.toggle(n);
            due("the last " + (6 - n) + " are off", z.conflicts(2), n * (6 - n));
        }
    }

    @Sentence(promise = 21, value = "Throws `IllegalArgumentException` if what is not 0 to 2")
    static void otherConflicts() {
        for (int bad : outside(0, 2)) {
            refused("conflicts(" + bad + ")", Boundary::busy, x -> x.conflicts(bad), ARGUMENT);
            refused("conflicts(" + bad + ") of nobody", ClaimedTasks::new, x -> x.conflicts(bad), ARGUMENT);
        }
    }

    // ---- promise 22: finishedAfter

    /**
     * One agent that claims task 3, is put 22 places away from it, and goes from task to nearest
     * task: 3 at 22 + 9 = 31, 4 at 9 + 9 more = 49, 6 at 62, 2 at 78 (task 7 is as near), 7 at 93,
     * 5 at 108, 0 (task 1 is as near) at 119 + its work, and 1 at 142 + this work.
     */
    static ClaimedTasks longWay(int workOfTask0) {
        ClaimedTasks x = Scene.loaded(
                "C20a100000t0000" + workOfTask0 + "t11111t08079t11009t06049t00119t03059t05109");
        x.step(1);
        x.put(0, 0, 11);
        return x;
    }

    @Sentence(promise = 22, value = "`k`: number of tasks, 0 to 8")
    static void from0To8Tasks() {
        asked("0 of no tasks", ClaimedTasks::new, x -> x.finishedAfter(0), 0);
        asked("8 of no tasks", ClaimedTasks::new, x -> x.finishedAfter(8), NONE);
        ClaimedTasks x = Scene.loaded("C05a000000" + "t00001".repeat(8));
        for (int k = 0; k <= 8; k++) {
            due(k + " of 8 tasks", x.finishedAfter(k), k);
        }
    }

    @Sentence(promise = 22, value = "Returns the smallest number of steps, 0 to 150, after which at least k tasks are"
            + " finished;")
    static void atLeastAndAtMost150() {
        // Two tasks are finished in the same step, none in the one before.
        ClaimedTasks x = Scene.loaded("C05a000000a110000t00003t11003");
        for (int k = 1; k <= 2; k++) {
            due(k + " of 2", x.finishedAfter(k), 3);
        }
        x.step(2);
        due("a step before", x.finishedAfter(1), 1);
        x.step(1);
        due("one is less than two", x.finishedAfter(1), 0);
        due("at once", x.finishedAfter(2), 0);
        ClaimedTasks y = longWay(8);
        int[] after = {0, 31, 49, 62, 78, 93, 108, 127, 150};
        for (int k = 0; k <= 8; k++) {
            due(k + " on the long way", y.finishedAfter(k), after[k]);
        }
    }

    @Sentence(promise = 22, value = "NONE if there is none.")
    static void notWithin150() {
        ClaimedTasks x = longWay(9);
        due("7 in time", x.finishedAfter(7), 128);
        due("8 a step too late", x.finishedAfter(8), NONE);
        x.step(1);
        due("8 in time a step later", x.finishedAfter(8), 150);
        due("more than there are", Scene.loaded("C05a000000t00001").finishedAfter(2), NONE);
        due("nobody to do it", Scene.loaded("C05t00001").finishedAfter(1), NONE);
        ClaimedTasks y = Scene.loaded("C05a000000t00001");
        y.toggle(0);
        due("nobody on", y.finishedAfter(1), NONE);
    }

    @Sentence(promise = 22, value = "Throws `IllegalArgumentException` if k is out of range")
    static void wrongNumbersOfTasks() {
        for (int bad : outside(0, 8)) {
            refused("finishedAfter(" + bad + ")", Boundary::busy, x -> x.finishedAfter(bad), ARGUMENT);
            refused("finishedAfter(" + bad + ") of nobody", ClaimedTasks::new, x -> x.finishedAfter(bad), ARGUMENT);
        }
    }

    // ---- promise 23: knownAfter

    @Sentence(promise = 23, value = "Returns the smallest number of steps, 0 to 150, after which all notes of agents"
            + " that are on say that it is finished")
    static void knownFrom0To150() {
        ClaimedTasks x = Scene.loaded("C05a000002a020002a040002t00001");
        due("hop by hop", x.knownAfter(0), 3);
        for (int left = 2; left >= 0; left--) {
            x.step(1);
            due("a step later", x.knownAfter(0), left);
        }
        x.load();
        x.toggle(2);
        due("who is off need not know", x.knownAfter(0), 2);
        due("on the long way", longWay(8).knownAfter(1), 150);
        due("the first on the long way", longWay(8).knownAfter(3), 31);
        // It is finished already, but agent 0 has to go there to know it.
        ClaimedTasks y = Scene.loaded("C20a000000a000000t03001t00009");
        y.toggle(0);
        y.put(1, 3, 0);
        y.step(1);
        y.toggle(1);
        y.toggle(0);
        due("finished", y.task(0, 4), 1);
        due("known after the other work and the way", y.knownAfter(0), 9 + 3 + 1);
    }

    @Sentence(promise = 23, value = "(0 if no agent is on);")
    static void knownToNobody() {
        due("no agents", Scene.loaded("C05t00009").knownAfter(0), 0);
        ClaimedTasks x = Scene.loaded("C05a000000t00009");
        x.toggle(0);
        due("nobody on", x.knownAfter(0), 0);
        x.toggle(0);
        due("one on", x.knownAfter(0), 9);
    }

    @Sentence(promise = 23, value = "NONE if there is none.")
    static void neverKnown() {
        ClaimedTasks x = longWay(9);
        due("a step too late", x.knownAfter(1), NONE);
        x.step(1);
        due("in time a step later", x.knownAfter(1), 150);
        // All notes have to say so: one that knows is not enough.
        ClaimedTasks y = longWay(9);
        y.toggle(0);
        due("nobody on", y.knownAfter(1), 0);
    }

    @Sentence(promise = 23, value = "Throws `IndexOutOfBoundsException` if there is no such task")
    static void knownOfNoTask() {
        for (int bad : outside(0, 1)) {
            refused("knownAfter(" + bad + ")", Boundary::busy, x -> x.knownAfter(bad), INDEX);
        }
        for (int bad : outside(0, 7)) {
            refused("knownAfter(" + bad + ") of 8", Boundary::full, x -> x.knownAfter(bad), INDEX);
        }
        refused("knownAfter of nothing", ClaimedTasks::new, x -> x.knownAfter(0), INDEX);
        due("the last of 8 tasks", Scene.loaded("C05a000000" + "t00001".repeat(8)).knownAfter(7), 8);
    }

    // ---- promise 24: wastedIf

    /**
     * Agent 0 has a claim for task 0 at (0, 0), 14 places away, with 8 units of work left there,
     * then 54 more; then it goes 22 places to task 7, which is finished, as only agent 1, which is
     * off, knows: 14 + 62 + 22 = 98 steps, and the 99th is wasted.
     */
    private static ClaimedTasks wasteAt99() {
        ClaimedTasks x = Scene.loaded("C20a000000a111100" + "t00009".repeat(7) + "t11111");
        x.step(1);
        x.toggle(1);
        x.put(0, 11, 3);
        return x;
    }

    @Sentence(promise = 24, value = "`n`: number of steps, 1 to 99")
    static void wasteInTheFirstAndThe99thStep() {
        asked("98 steps", ForecastBoundaryTest::wasteAt99, x -> x.wastedIf(0, 98), 0);
        asked("99 steps", ForecastBoundaryTest::wasteAt99, x -> x.wastedIf(0, 99), 1);
        Supplier<ClaimedTasks> three = () -> Scene.loaded("C05a000000a000000a000000t00001");
        asked("1 step", three, x -> x.wastedIf(22, 1), 2);
    }

    @Sentence(promise = 24, value = "`r`: range, 0 to 22")
    static void rangesFrom0To22Waste() {
        // Agent 0 does task 0 and goes on to (0, 5); agent 1 walks 11 places to task 0, and is
        // never nearer to agent 0 than 5 places before it is there.
        for (int own : new int[] {0, 22}) {
            ClaimedTasks x = Scene.loaded("C20a000022a110000t00001t00059");
            x.setRange(1, own);
            for (int r = 0; r <= 22; r++) {
                due("range " + r + ", not " + own, x.wastedIf(r, 99), r < 5 ? 1 : 0);
            }
            due("the range of 0 stays", x.agent(0, 2), 22);
            due("the range of 1 stays", x.agent(1, 2), own);
        }
    }

    @Sentence(promise = 24, value = "Returns the sum of the wasted steps of all agents after n steps (with those that"
            + " they have already), if all agents had the range r.")
    static void withWhatIsWastedAlready() {
        ClaimedTasks x = Scene.loaded("C05a000000a000000a000000t00001");
        x.step(1);
        due("two are wasted already", x.wastedIf(0, 1), 2);
        x.toggle(1);
        due("one of them is off", x.wastedIf(22, 99), 2);
        due("nobody", new ClaimedTasks().wastedIf(22, 99), 0);
        // The ranges of both change: agent 1 hears agent 0, which is two places away, only then.
        ClaimedTasks y = Scene.loaded("C09a000000a030000t00001t00051");
        y.step(1);
        due("range 2", y.wastedIf(2, 99), 0);
        due("range 1", y.wastedIf(1, 99), 1);
        y.setRange(0, 22);
        due("range 2 for both", y.wastedIf(2, 99), 0);
        due("range 1 for both", y.wastedIf(1, 99), 1);
    }

    @Sentence(promise = 24, value = "Throws `IllegalArgumentException` if r or n is out of range")
    static void wrongRangesAndSteps() {
        for (int bad : outside(0, 22)) {
            refused("wastedIf(" + bad + ", 1)", Boundary::busy, x -> x.wastedIf(bad, 1), ARGUMENT);
        }
        for (int bad : outside(1, 99)) {
            refused("wastedIf(0, " + bad + ")", Boundary::busy, x -> x.wastedIf(0, bad), ARGUMENT);
            refused("wastedIf(22, " + bad + ") of nobody", ClaimedTasks::new, x -> x.wastedIf(22, bad), ARGUMENT);
        }
        refused("both are wrong", Boundary::busy, x -> x.wastedIf(23, 100), ARGUMENT);
    }

    // ---- promise 25: worstLoss

    /**
     * Both agents have a claim for the first of seven tasks at (0, 0), agent 0 from 14 places away
     * and agent 1 from 13. Alone, agent 1 does the one unit of task 7, 22 places farther, in the
     * 99th step, and agent 0 in the 100th; before, both have done 63.
     */
    private static ClaimedTasks lossAt99() {
        ClaimedTasks x = Scene.loaded("C20a010000a000100" + "t00009".repeat(7) + "t11111");
        x.step(1);
        x.put(0, 11, 3);
        x.put(1, 11, 2);
        return x;
    }

    @Sentence(promise = 25, value = "`n`: number of steps, 1 to 99")
    static void lossInTheFirstAndThe99thStep() {
        asked("98 steps", ForecastBoundaryTest::lossAt99, x -> x.worstLoss(98), 0);
        asked("99 steps", ForecastBoundaryTest::lossAt99, x -> x.worstLoss(99), 1);
        asked("1 step", () -> Scene.loaded("C05a110000a000000t00009"), x -> x.worstLoss(1), 1);
    }

    @Sentence(promise = 25, value = "Returns the agent that is on and without which, if it were switched off now, the"
            + " sum of the progress of all tasks after n steps would be smallest;")
    static void fromTheFirstToTheLastAgent() {
        for (int worst = 0; worst < 6; worst++) {
            StringBuilder text = new StringBuilder("C05t00009");
            for (int a = 0; a < 6; a++) {
                text.append(a == worst ? "a000000" : "a111100");
            }
            ClaimedTasks x = Scene.loaded(text.toString());
            due("the only one that works is " + worst, x.worstLoss(1), worst);
            x.toggle(worst);
            due("without it all are as bad", x.worstLoss(1), worst == 0 ? 1 : 0);
        }
    }

    @Sentence(promise = 25, value = "among several the smallest one;")
    static void ofSeveralTheSmallestAgent() {
        due("none works", Scene.loaded("C05a110000a110000t00009").worstLoss(1), 0);
        due("both work", Scene.loaded("C05a000000a110000t00009t11009").worstLoss(5), 0);
        due("the last two work", Scene.loaded("C05a050500a000000a110000t00009t11009").worstLoss(5), 1);
        due("no tasks", Scene.loaded("C05a050500a000000").worstLoss(99), 0);
    }

    @Sentence(promise = 25, value = "NONE if none is on.")
    static void nobodyToLose() {
        due("nobody", new ClaimedTasks().worstLoss(99), NONE);
        due("no agents", Scene.loaded("C05t00009").worstLoss(1), NONE);
        ClaimedTasks x = Scene.loaded("C05a000000a110000t00009");
        x.toggle(0);
        due("one on", x.worstLoss(1), 1);
        x.toggle(1);
        due("none on", x.worstLoss(1), NONE);
    }

    @Sentence(promise = 25, value = "Throws `IllegalArgumentException` if n is out of range")
    static void wrongStepsOfLoss() {
        for (int bad : outside(1, 99)) {
            refused("worstLoss(" + bad + ")", Boundary::busy, x -> x.worstLoss(bad), ARGUMENT);
            refused("worstLoss(" + bad + ") of nobody", ClaimedTasks::new, x -> x.worstLoss(bad), ARGUMENT);
        }
    }

    // ---- promise 26: bestShare

    private static void shareIs(String name, ClaimedTasks x, int sum, int... tasks) {
        due(name + ": sum", x.bestShare(-1), sum);
        for (int a = 0; a < tasks.length; a++) {
            due(name + ": task of " + a, x.bestShare(a), tasks[a]);
        }
    }

    @Sentence(promise = 26, value = "each agent that is on gets at most one task that is not finished,")
    static void onlyWhoIsOnAndWhatIsNotFinished() {
        ClaimedTasks x = Scene.loaded("C05a000000a050000t00001t05002");
        shareIs("both", x, 0, 0, 1);
        x.step(1);
        // Task 0 is finished, task 1 needs one unit more.
        shareIs("one task is left", x, 0, NONE, 1);
        x.toggle(1);
        shareIs("agent 1 is off", x, 5, 1, NONE);
        x.toggle(0);
        shareIs("both are off", x, 0, NONE, NONE);
        x.toggle(0);
        x.toggle(1);
        x.step(1);
        shareIs("all are finished", x, 0, NONE, NONE);
        shareIs("one agent, many tasks", Scene.loaded("C05a050500" + "t05059".repeat(8)), 0, 0);
    }

    @Sentence(promise = 26, value = "each task goes to at most one agent,")
    static void oneTaskForMany() {
        shareIs("six for one", Scene.loaded("C05" + "a050500".repeat(6) + "t05059"), 0, 0, NONE, NONE, NONE, NONE, NONE);
        shareIs("the nearest of three", Scene.loaded("C05a000000a050000a090000t04001"), 1, NONE, 0, NONE);
        shareIs("six for five", Scene.loaded("C05" + "a000000".repeat(6) + "t01001".repeat(5)),
                5, 0, 1, 2, 3, 4, NONE);
    }

    @Sentence(promise = 26, value = "such that as many agents as possible get one,")
    static void asManyAsPossibleThoughFar() {
        shareIs("far", Scene.loaded("C05a000000a000000t00001t11111"), 22, 0, 1);
        shareIs("all six", Scene.loaded("C05" + "a000000".repeat(6) + "t11111".repeat(6)), 132, 0, 1, 2, 3, 4, 5);
        shareIs("six of eight", Scene.loaded("C05" + "a000000".repeat(6) + "t11111".repeat(8)), 132, 0, 1, 2, 3, 4, 5);
    }

    @Sentence(promise = 26, value = "the sum of the distances of the agents from their tasks is smallest;")
    static void theSmallestSum() {
        // Agent 0 gives up the task beside it: 1 + 2 instead of 1 + 4.
        shareIs("not each the nearest", Scene.loaded("C05a050000a030000t04001t07001"), 3, 1, 0);
        ClaimedTasks x = Scene.loaded("C05a050000a000000a030000a040000t04001t07001");
        x.toggle(1);
        x.toggle(3);
        shareIs("one between them and one behind them are off", x, 3, 1, NONE, 0, NONE);
        shareIs("one between them gets none", Scene.loaded("C05a000000a050500a090000t00001t09001"), 0, 0, NONE, 1);
        shareIs("in opposite order", Scene.loaded("C05a000000a010000a020000a030000a040000a050000"
                + "t11111t11101t05001t04001t03001t02001t01001t00001"), 0, 7, 6, 5, 4, 3, 2);
    }

    @Sentence(promise = 26, value = "among several the one that is lexicographically smallest by the tasks of the"
            + " agents 0, 1, and so on (an agent that gets none, or is off, counts as 8).")
    static void theFirstOfEqualWays() {
        shareIs("two ways", Scene.loaded("C05a000000a010000t02001t03001"), 4, 0, 1);
        shareIs("the first gets it", Scene.loaded("C05a000000a000000a000000t01001"), 1, 0, NONE, NONE);
        // All have the sum 1: (8, 0, 1) is not taken, as (0, 8, 1) and (0, 1, 8) are smaller.
        shareIs("the last gets none", Scene.loaded("C05a000000a000000a000000t00001t01001"), 1, 0, 1, NONE);
        ClaimedTasks x = Scene.loaded("C05a000000a000000a000000t00001t01001");
        x.toggle(0);
        shareIs("the first is off", x, 1, NONE, 0, 1);
        // Agent 1 is nearer to both tasks; who gets which one does not matter for the sum.
        shareIs("agent 0 takes the smaller task", Scene.loaded("C05a000000a010000t05001t04001"), 8, 0, 1);
    }

    @Sentence(promise = 26, value = "`a`: agent, or -1")
    static void minusOneIsAllowed() {
        asked("the sum", Boundary::busy, x -> x.bestShare(-1), busy().bestShare(-1));
        asked("of nobody", ClaimedTasks::new, x -> x.bestShare(-1), 0);
    }

    @Sentence(promise = 26, value = "NONE if it gets none; for a = -1 the sum of the distances (0 if nobody gets a"
            + " task).")
    static void nobodyGetsATask() {
        shareIs("no tasks", Scene.loaded("C05a000000a000000"), 0, NONE, NONE);
        shareIs("no agents", Scene.loaded("C05t00001"), 0);
        ClaimedTasks x = Scene.loaded("C05a000000t00001");
        x.step(1);
        shareIs("nothing left", x, 0, NONE);
        // What was found for many must not be left over for few.
        ClaimedTasks y = Scene.loaded("C05" + "a000000".repeat(6) + "t11111".repeat(8));
        due("many", y.bestShare(-1), 132);
        for (int a = 0; a < 6; a++) {
            y.toggle(a);
        }
        shareIs("all off", y, 0, NONE, NONE, NONE, NONE, NONE, NONE);
        ClaimedTasks z = Scene.loaded("C05" + "a000000".repeat(6) + "t00001".repeat(3));
        due("more agents than tasks", z.bestShare(-1), 0);
        z.clearText();
        Scene.type(z, "C05a010000a020000t00001t04001t05001");
        z.load();
        shareIs("few agents after many", z, 3, 0, 1);
    }

    @Sentence(promise = 26, value = "Throws `IndexOutOfBoundsException` if a is neither -1 nor an agent")
    static void shareOfNoAgent() {
        for (int bad : outside(-1, 2)) {
            refused("bestShare(" + bad + ")", Boundary::busy, x -> x.bestShare(bad), INDEX);
        }
        for (int bad : outside(-1, 5)) {
            refused("bestShare(" + bad + ") of 6", Boundary::full, x -> x.bestShare(bad), INDEX);
        }
        for (int bad : new int[] {-2, 0, 1, 6}) {
            refused("bestShare(" + bad + ") of nobody", ClaimedTasks::new, x -> x.bestShare(bad), INDEX);
        }
    }
}
