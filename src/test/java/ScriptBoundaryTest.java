import java.util.function.Supplier;

/** Boundary cases of promises 27 and 28: runScript and simulate. */
public final class ScriptBoundaryTest extends Boundary {
    private static final long[] SEEDS = {0, 1, -1, 7, 20261118, Long.MAX_VALUE, Long.MIN_VALUE};

    public static void main(String[] args) {
        runAll(ScriptBoundaryTest.class);
    }

    /** At 2, agent 0 has the task, agent 1 holds its claim, one place away. */
    private static ClaimedTasks settled() {
        ClaimedTasks x = Scene.loaded(TWO);
        x.step(2);
        return x;
    }

    private static void scriptIs(Supplier<ClaimedTasks> maker, int n, long script, int want) {
        due("runScript(" + n + ", " + script + ")", maker.get().runScript(n, script), want);
    }

    // ---- promise 27

    @Sentence(promise = 27, value = "Runs a script on a copy of the state.")
    static void noCommandChangesTheState() {
        for (long script : new long[] {10099, 20000, 21022, 30000, 31000, 40100, 50000, 60000, 70000, 80000, 90000, 0}) {
            asked("runScript(1, " + script + ")", ScriptBoundaryTest::settled, x -> x.runScript(1, script),
                    script == 0 ? 0 : NONE);
        }
        asked("three commands", ScriptBoundaryTest::settled, x -> x.runScript(3, 401003000010099L), NONE);
        asked("the last one fails", ScriptBoundaryTest::settled, x -> x.runScript(3, 401003000010000L), 2);
        // Each script starts from the state, not from where the one before has ended.
        ClaimedTasks x = settled();
        for (int i = 0; i < 3; i++) {
            due("four steps and the finish", x.runScript(2, 1000460001L), NONE);
        }
    }

    @Sentence(promise = 27, value = "A script has 1 to 3 commands; each is a group of five decimal digits d1 to d5, and"
            + " the first command is the highest group of the number")
    static void fromOneToThreeCommands() {
        // Command 60000 succeeds, 60001 fails.
        Supplier<ClaimedTasks> two = () -> Scene.loaded(TWO);
        scriptIs(two, 1, 60000, NONE);
        scriptIs(two, 1, 60001, 0);
        scriptIs(two, 2, 6000060000L, NONE);
        scriptIs(two, 2, 6000060001L, 1);
        scriptIs(two, 2, 6000160000L, 0);
        scriptIs(two, 3, 600006000060000L, NONE);
        scriptIs(two, 3, 600006000060001L, 2);
        scriptIs(two, 3, 600006000160000L, 1);
        scriptIs(two, 3, 600016000060000L, 0);
        // They are done in this order: before the steps agent 0 has no claim to hand over.
        scriptIs(two, 3, 100024010071000L, NONE);
        scriptIs(two, 3, 401001000271000L, 0);
    }

    @Sentence(promise = 27, value = "(with zeros before it, if it has fewer digits).")
    static void fewerDigits() {
        Supplier<ClaimedTasks> two = () -> Scene.loaded(TWO);
        scriptIs(two, 1, 0, 0);
        scriptIs(two, 1, 1, 0);
        scriptIs(two, 1, 9999, 0);
        scriptIs(two, 2, 60000, 0);
        scriptIs(two, 2, 99999, 0);
        scriptIs(two, 3, 6000060000L, 0);
        scriptIs(two, 3, 9999999999L, 0);
        scriptIs(two, 3, 0, 0);
        // Zeros inside are zeros of a group.
        scriptIs(two, 2, 6000000000L, 1);
        scriptIs(two, 3, 600006000000000L, 2);
    }

    @Sentence(promise = 27, value = "1 0 0 x y: makes xy steps (01 to 99).")
    static void from01To99Steps() {
        Supplier<ClaimedTasks> two = () -> Scene.loaded(TWO);
        scriptIs(two, 1, 10000, 0);
        scriptIs(two, 1, 10001, NONE);
        scriptIs(two, 1, 10099, NONE);
        scriptIs(two, 1, 10100, 0);
        scriptIs(two, 1, 11001, 0);
        // The task is finished by the sixth step.
        scriptIs(two, 2, 1000560000L, NONE);
        scriptIs(two, 2, 1000660001L, NONE);
        scriptIs(two, 3, 100051000160001L, NONE);
        // The eighth task of the long way is finished by the 99th step from here.
        Supplier<ClaimedTasks> late = () -> {
            ClaimedTasks x = ForecastBoundaryTest.longWay(8);
            x.step(51);
            return x;
        };
        scriptIs(late, 2, 1009860007L, NONE);
        scriptIs(late, 2, 1009960008L, NONE);
        scriptIs(ClaimedTasks::new, 1, 10099, NONE);
    }

    @Sentence(promise = 27, value = "2 a 0 x y: agent a gets the range xy.")
    static void rangesFrom00To22() {
        // The handover works only if the range reaches one place.
        scriptIs(ScriptBoundaryTest::settled, 2, 2000140100L, NONE);
        scriptIs(ScriptBoundaryTest::settled, 2, 2000040100L, 1);
        scriptIs(ScriptBoundaryTest::settled, 2, 2102240100L, NONE);
        scriptIs(ScriptBoundaryTest::settled, 2, 2100040100L, 1);
        scriptIs(ScriptBoundaryTest::settled, 1, 20023, 0);
        scriptIs(ScriptBoundaryTest::settled, 1, 20099, 0);
        scriptIs(ScriptBoundaryTest::settled, 1, 20100, 0);
        scriptIs(ScriptBoundaryTest::settled, 1, 22000, 0);
        for (int r = 0; r <= 99; r++) {
            scriptIs(ScriptBoundaryTest::settled, 1, 21000 + r, r <= 22 ? NONE : 0);
        }
    }

    @Sentence(promise = 27, value = "3 a 0 0 0: agent a is switched.")
    static void switches() {
        scriptIs(ScriptBoundaryTest::settled, 2, 3000040100L, 1);
        scriptIs(ScriptBoundaryTest::settled, 2, 3100040100L, 1);
        scriptIs(ScriptBoundaryTest::settled, 3, 310003100040100L, NONE);
        scriptIs(ScriptBoundaryTest::settled, 1, 30001, 0);
        scriptIs(ScriptBoundaryTest::settled, 1, 30010, 0);
        scriptIs(ScriptBoundaryTest::settled, 1, 30100, 0);
        scriptIs(Boundary::full, 1, 35000, NONE);
        scriptIs(Boundary::full, 1, 36000, 0);
    }

    @Sentence(promise = 27, value = "4 a b 0 0: a hands its claim over to b.")
    static void handovers() {
        scriptIs(ScriptBoundaryTest::settled, 2, 4010071000L, NONE);
        scriptIs(ScriptBoundaryTest::settled, 2, 4010070000L, 1);
        scriptIs(ScriptBoundaryTest::settled, 3, 401004100070000L, NONE);
        scriptIs(ScriptBoundaryTest::settled, 1, 40101, 0);
        scriptIs(ScriptBoundaryTest::settled, 1, 40110, 0);
        scriptIs(ScriptBoundaryTest::settled, 1, 40200, 0);
        scriptIs(ScriptBoundaryTest::settled, 1, 42000, 0);
    }

    @Sentence(promise = 27, value = "5 a 0 0 0: a drops its claims.")
    static void drops() {
        scriptIs(ScriptBoundaryTest::settled, 2, 5000070000L, 1);
        scriptIs(ScriptBoundaryTest::settled, 2, 5100070000L, NONE);
        scriptIs(() -> Scene.loaded(TWO), 1, 50000, NONE);
        scriptIs(ScriptBoundaryTest::settled, 1, 50001, 0);
        scriptIs(ScriptBoundaryTest::settled, 1, 50010, 0);
        scriptIs(ScriptBoundaryTest::settled, 1, 50100, 0);
    }

    @Sentence(promise = 27, value = "6 0 0 0 k: succeeds if exactly k tasks are finished.")
    static void exactlySoManyFinished() {
        for (int done = 0; done <= 8; done++) {
            for (int k = 0; k <= 9; k++) {
                int steps = done;
                scriptIs(() -> eightSmallTasks(steps), 1, 60000 + k, k == done ? NONE : 0);
            }
        }
        scriptIs(() -> eightSmallTasks(1), 1, 60011, 0);
        scriptIs(() -> eightSmallTasks(1), 1, 60101, 0);
        scriptIs(() -> eightSmallTasks(1), 1, 61001, 0);
    }

    /** One agent, and eight tasks of work 1 beside it, of which some are done. */
    private static ClaimedTasks eightSmallTasks(int done) {
        ClaimedTasks x = Scene.loaded("C05a000000" + "t00001".repeat(8));
        if (done > 0) {
            x.step(done);
        }
        return x;
    }

    @Sentence(promise = 27, value = "7 a 0 0 t: succeeds if a has a claim and t is its own task.")
    static void ownTasks() {
        for (int own = 0; own < 8; own++) {
            String text = "C05a000000a000000" + "t11111".repeat(own) + "t00009" + "t11111".repeat(7 - own);
            for (int t = 0; t <= 9; t++) {
                scriptIs(() -> Scene.loaded(text), 2, 1000170000L + t, t == own ? NONE : 1);
            }
        }
        scriptIs(ScriptBoundaryTest::settled, 1, 70000, NONE);
        scriptIs(ScriptBoundaryTest::settled, 1, 71000, 0);
        scriptIs(ScriptBoundaryTest::settled, 1, 70010, 0);
        scriptIs(ScriptBoundaryTest::settled, 1, 70100, 0);
        scriptIs(ScriptBoundaryTest::settled, 1, 72000, 0);
        // With the lifetime 1 the claim is expired when the step is over.
        scriptIs(() -> Scene.loaded("C01a000000t05009"), 2, 1000170000L, 1);
        scriptIs(() -> Scene.loaded("C02a000000t05009"), 2, 1000170000L, NONE);
        // An agent that is off keeps its claim until it expires, at 6.
        scriptIs(ScriptBoundaryTest::settled, 3, 300001000370000L, NONE);
        scriptIs(ScriptBoundaryTest::settled, 3, 300001000470000L, 2);
    }

    @Sentence(promise = 27, value = "8 0 0 0 k: succeeds if there are exactly k tasks as in conflicts(0).")
    static void exactlySoManyConflicts() {
        for (int doubles = 0; doubles <= 3; doubles++) {
            StringBuilder text = new StringBuilder("C05t00119t05119t11119");
            for (int i = 0; i < doubles; i++) {
                text.append(String.format("a%02d0000a%02d0100", i * 5, i * 5));
            }
            for (int k = 0; k <= 9; k++) {
                scriptIs(() -> Scene.loaded(text.toString()), 2, 1000180000L + k, k == doubles ? NONE : 1);
            }
        }
        scriptIs(() -> Scene.loaded(TWO), 2, 1000180011L, 1);
        scriptIs(() -> Scene.loaded(TWO), 2, 1000180101L, 1);
        scriptIs(() -> Scene.loaded(TWO), 2, 1000181001L, 1);
    }

    @Sentence(promise = 27, value = "9 0 0 x y: succeeds if the sum of all wasted steps is at most xy.")
    static void atMostSoManyWasted() {
        Supplier<ClaimedTasks> five = () -> {
            ClaimedTasks x = Scene.loaded("C05" + "a000000".repeat(6) + "t00001");
            x.step(1);
            return x;
        };
        for (int xy = 0; xy <= 99; xy++) {
            scriptIs(five, 1, 90000 + xy, xy >= 5 ? NONE : 0);
        }
        scriptIs(ClaimedTasks::new, 1, 90000, NONE);
        scriptIs(ClaimedTasks::new, 1, 90100, 0);
        scriptIs(ClaimedTasks::new, 1, 91000, 0);
    }

    @Sentence(promise = 27, value = "The commands 1 to 5 fail if the method with this effect would throw an exception.")
    static void whatTheMethodRefusesFails() {
        scriptIs(ScriptBoundaryTest::settled, 1, 10000, 0);
        scriptIs(ScriptBoundaryTest::settled, 1, 20023, 0);
        scriptIs(ScriptBoundaryTest::settled, 1, 32000, 0);
        scriptIs(ScriptBoundaryTest::settled, 1, 52000, 0);
        scriptIs(ScriptBoundaryTest::settled, 1, 40000, 0);
        scriptIs(ScriptBoundaryTest::settled, 1, 41100, 0);
        scriptIs(ScriptBoundaryTest::settled, 1, 41000, 0);
        scriptIs(() -> Scene.loaded(TWO), 2, 1000140100L, 1);
        scriptIs(ScriptBoundaryTest::settled, 2, 2000040100L, 1);
        scriptIs(ScriptBoundaryTest::settled, 2, 3100040100L, 1);
        scriptIs(ScriptBoundaryTest::settled, 2, 5000040100L, 1);
        // Switched off at 2, agent 0 has its claim until 6: three steps later, and not four.
        scriptIs(() -> asleepFor(3), 2, 3000040100L, NONE);
        scriptIs(() -> asleepFor(4), 2, 3000040100L, 1);
    }

    private static ClaimedTasks asleepFor(int steps) {
        ClaimedTasks x = settled();
        x.toggle(0);
        x.toggle(1);
        x.step(steps);
        x.toggle(1);
        return x;
    }

    @Sentence(promise = 27, value = "Commands with agents that do not exist fail, and so does any other group.")
    static void eachOfAllGroups() {
        ClaimedTasks x = settled();
        for (int group = 0; group <= 99999; group++) {
            if (group % 400 == 0) {
                x = settled();
            }
            due("runScript(1, " + group + ")", x.runScript(1, group), isFine(String.format("%05d", group)) ? NONE : 0);
        }
        for (int group = 0; group <= 99999; group += 1000) {
            boolean asks = group == 60000 || group == 80000 || group == 90000;
            due("runScript(1, " + group + ") of nobody", new ClaimedTasks().runScript(1, group), asks ? NONE : 0);
        }
    }

    /** The groups that succeed where agent 0 has the one task and agent 1 hears it. */
    private static boolean isFine(String group) {
        return group.matches("100(0[1-9]|[1-9].)") || group.matches("2[01]0([01].|2[0-2])")
                || group.matches("[35][01]000") || group.equals("40100")
                || group.equals("60000") || group.equals("70000") || group.equals("80000") || group.matches("900..");
    }

    @Sentence(promise = 27, value = "`n`: number of commands, 1 to 3")
    static void oneOrThreeCommands() {
        scriptIs(() -> Scene.loaded(TWO), 1, 10001, NONE);
        scriptIs(() -> Scene.loaded(TWO), 3, 100011000110001L, NONE);
        refused("no command", Boundary::busy, x -> x.runScript(0, 0), ARGUMENT);
        refused("four commands", Boundary::busy, x -> x.runScript(4, 100011000110001L), ARGUMENT);
    }

    @Sentence(promise = 27, value = "`script`: the commands, a number of at most 5 * n digits (0 or more)")
    static void theLongestScripts() {
        scriptIs(Boundary::busy, 1, 99999, 0);
        scriptIs(Boundary::busy, 2, 9999999999L, 0);
        scriptIs(Boundary::busy, 3, 999999999999999L, 0);
        scriptIs(Boundary::busy, 1, 90099, NONE);
        scriptIs(Boundary::busy, 2, 9009990099L, NONE);
        scriptIs(Boundary::busy, 3, 900999009990099L, NONE);
        scriptIs(Boundary::busy, 1, 0, 0);
        scriptIs(Boundary::busy, 2, 0, 0);
        scriptIs(Boundary::busy, 3, 0, 0);
    }

    @Sentence(promise = 27, value = "Returns the index, from 0, of the first command that fails; NONE if all succeed.")
    static void theFirstOfSeveralThatFail() {
        Supplier<ClaimedTasks> two = () -> Scene.loaded(TWO);
        scriptIs(two, 3, 600016000160001L, 0);
        scriptIs(two, 3, 600006000160001L, 1);
        scriptIs(two, 3, 600006000060001L, 2);
        scriptIs(two, 3, 600006000060000L, NONE);
        scriptIs(two, 3, 600016000060001L, 0);
    }

    @Sentence(promise = 27, value = "Throws `IllegalArgumentException` if n is out of range, or if script is negative or"
            + " has more than 5 * n digits")
    static void wrongScripts() {
        for (int bad : outside(1, 3)) {
            refused("runScript(" + bad + ", 0)", Boundary::busy, x -> x.runScript(bad, 0), ARGUMENT);
            refused("runScript(" + bad + ", 10001)", Boundary::full, x -> x.runScript(bad, 10001), ARGUMENT);
        }
        long[] tooLong = {100000L, 10000000000L, 1000000000000000L};
        for (int n = 1; n <= 3; n++) {
            int count = n;
            for (long bad : new long[] {-1, -10001, Long.MIN_VALUE, tooLong[n - 1], tooLong[n - 1] + 10001,
                Long.MAX_VALUE}) {
                refused("runScript(" + n + ", " + bad + ")", Boundary::busy, x -> x.runScript(count, bad), ARGUMENT);
                refused("runScript(" + n + ", " + bad + ") of nobody", ClaimedTasks::new,
                        x -> x.runScript(count, bad), ARGUMENT);
            }
        }
        // 2 to the 32nd more than a script that succeeds.
        refused("a script that wraps around", Boundary::busy, x -> x.runScript(1, (1L << 32) + 10001), ARGUMENT);
        refused("n and script are wrong", Boundary::busy, x -> x.runScript(4, -1), ARGUMENT);
    }

    // ---- promise 28

    /** The same rounds, made by the actions themselves. */
    private static int replayed(ClaimedTasks x, long seed, int m) {
        int agents = x.about(0);
        long v = seed;
        for (int i = 0; i < m; i++) {
            v = v * 6364136223846793005L + 1442695040888963407L;
            int r = (int) (v >>> 33);
            if (agents > 0) {
                int a = r / 8 % agents;
                if (r % 8 == 0) {
                    x.toggle(a);
                } else if (r % 8 == 1) {
                    x.setRange(a, r / 64 % 23);
                } else if (r % 8 == 2) {
                    x.put(a, r / 64 % 12, r / 1024 % 12);
                }
            }
            x.step(1);
        }
        return result(x);
    }

    private static int result(ClaimedTasks x) {
        int sum = 100 * x.about(6);
        for (int t = 0; t < x.about(1); t++) {
            sum += x.task(t, 3);
        }
        return sum;
    }

    private static ClaimedTasks large() {
        return Scene.loaded("C04" + "a000003a110003a001103a111103a050503" + "t00009t11119t00119t11009t05069t06059t02029");
    }

    @Sentence(promise = 28, value = "Simulates m rounds on a copy of the state.")
    static void simulateChangesNothing() {
        for (long seed : SEEDS) {
            int want = replayed(Boundary.busy(), seed, 60);
            asked("simulate(" + seed + ", 60)", Boundary::busy, x -> x.simulate(seed, 60), want);
        }
        ClaimedTasks x = large();
        int first = x.simulate(5, 60);
        due("the same again", x.simulate(5, 60), first);
    }

    @Sentence(promise = 28, value = "A long x starts as the seed. Each round first replaces x by x * 6364136223846793005L"
            + " + 1442695040888963407L (with long overflow),")
    static void eachSeedAndManyRounds() {
        for (long seed : SEEDS) {
            for (int m : new int[] {1, 2, 3, 59, 60}) {
                due("simulate(" + seed + ", " + m + ")", large().simulate(seed, m), replayed(large(), seed, m));
            }
        }
    }

    /** One round in which r is known: what it leaves of progress and waste. */
    private static void roundIs(String name, Supplier<ClaimedTasks> maker, long r, int want) {
        due(name + ", r = " + r, maker.get().simulate(Scene.seedFor(r), 1), want);
    }

    @Sentence(promise = 28, value = "and r = (int) (x >>> 33) is computed.")
    static void rFrom0To2147483647() {
        // r / 8 % 2 is the agent, which is switched off: 0 works at task 0, 1 at task 1.
        Supplier<ClaimedTasks> two = () -> Scene.loaded("C05a000000a110000t00009t11009");
        roundIs("the smallest r", two, 0, 1);
        roundIs("nothing happens", two, 7, 2);
        roundIs("the greatest r", two, 2147483647L, 2);
        // With a sign these would be negative: x is from here on.
        roundIs("half of all r", two, 1L << 30, 1);
        roundIs("agent 1 beyond the half", two, (1L << 30) + 8, 1);
        roundIs("nothing happens beyond the half", two, (1L << 30) + 3, 2);
        roundIs("the greatest r that switches", two, 2147483640L, 1);
        // 2147483642 is 2 by 8: agent 1 is put at (2147483642 / 64 % 12, 2147483642 / 1024 % 12).
        long put = 2147483642L;
        due("agent", put / 8 % 2, 1);
        due("column", put / 64 % 12, 7);
        due("row", put / 1024 % 12, 7);
        roundIs("put by the greatest r", () -> Scene.loaded("C05a000000a110000t00009t07079"), put, 2);
        roundIs("put elsewhere", () -> Scene.loaded("C05a000000a110000t00009t07089"), put, 1);
    }

    @Sentence(promise = 28, value = "If there are agents,")
    static void withoutAgents() {
        Supplier<ClaimedTasks> nobody = () -> Scene.loaded("C05t00009");
        for (long seed : SEEDS) {
            asked("simulate without agents", nobody, x -> x.simulate(seed, 60), 0);
            asked("simulate of a new object", ClaimedTasks::new, x -> x.simulate(seed, 1), 0);
        }
    }

    @Sentence(promise = 28, value = "let a be agent r / 8 % (number of agents): if r % 8 is 0, it is switched;")
    static void theAgentThatIsSwitched() {
        // The one task is where agent k % n stands; the others can only come there.
        for (int n = 1; n <= 6; n++) {
            for (int k = 0; k <= 2 * n; k++) {
                int off = k % n;
                int count = n;
                StringBuilder text = new StringBuilder("C05");
                for (int a = 0; a < n; a++) {
                    text.append(String.format("a%02d0000", a));
                }
                text.append(String.format("t%02d009", off));
                roundIs(count + " agents, one worker is off", () -> Scene.loaded(text.toString()), 8 * k, 0);
                roundIs(count + " agents, the worker works", () -> Scene.loaded(text.toString()), 8 * k + 7, 1);
                if (n > 1) {
                    roundIs(count + " agents, another one is off", () -> Scene.loaded(text.toString()), 8 * (k + 1), 1);
                }
            }
        }
        // One that is off is switched on.
        roundIs("on", () -> {
            ClaimedTasks x = Scene.loaded("C05a000000t00009");
            x.toggle(0);
            return x;
        }, 0, 1);
    }

    @Sentence(promise = 28, value = "if r % 8 is 1, its range becomes r / 64 % 23;")
    static void rangesWrapAroundAt23() {
        // Agent 1 stands on task 0, which agent 0, two places away, has done: it wastes a step
        // unless it hears it.
        Supplier<ClaimedTasks> two = () -> {
            ClaimedTasks x = Scene.loaded("C09a000022a030000t00001t00051");
            x.step(3);
            return x;
        };
        for (int k = 0; k <= 70; k++) {
            roundIs("range " + k % 23, two, 64L * k + 9, k % 23 < 2 ? 101 : 1);
        }
    }

    @Sentence(promise = 28, value = "if r % 8 is 2, it is put at (r / 64 % 12, r / 1024 % 12).")
    static void placesWrapAroundAt12() {
        for (int k = 0; k <= 26; k++) {
            // r / 64 goes through all columns with the row 0, and r / 1024 through all rows.
            long columns = 64L * (k % 16) + 10;
            long rows = 1024L * k + 10;
            String atColumn = String.format("C05a000000a110000t11119t%02d%02d9", columns / 64 % 12, columns / 1024 % 12);
            String atRow = String.format("C05a000000a110000t11119t%02d%02d9", rows / 64 % 12, rows / 1024 % 12);
            int byColumn = atColumn.endsWith("t00009") ? 2 : 1;
            int byRow = atRow.endsWith("t00009") ? 2 : 1;
            roundIs("put by column", () -> Scene.loaded(atColumn), columns, byColumn);
            roundIs("put by row", () -> Scene.loaded(atRow), rows, byRow);
        }
    }

    @Sentence(promise = 28, value = "Then a step is made.")
    static void oneStepARound() {
        // r = 7 in the first round: nothing but the step. One that is off does nothing.
        Supplier<ClaimedTasks> one = () -> Scene.loaded("C05a000000t00009");
        roundIs("one step", one, 7, 1);
        roundIs("switched off before the step", one, 0, 0);
        roundIs("put before the step", () -> Scene.loaded("C05a110000t00009"), 2, 1);
    }

    @Sentence(promise = 28, value = "`seed`: any long")
    static void theGreatestAndTheSmallestSeed() {
        for (long seed : new long[] {Long.MIN_VALUE, Long.MIN_VALUE + 1, -1, 0, 1, Long.MAX_VALUE - 1, Long.MAX_VALUE,
            Integer.MIN_VALUE, Integer.MAX_VALUE, 1L << 32, 1L << 33}) {
            due("simulate(" + seed + ", 30)", large().simulate(seed, 30), replayed(large(), seed, 30));
        }
    }

    @Sentence(promise = 28, value = "`m`: number of rounds, 1 to 60")
    static void oneRoundAndSixty() {
        int different = 0;
        for (long seed = 0; seed < 40; seed++) {
            due("1 round", large().simulate(seed, 1), replayed(large(), seed, 1));
            due("60 rounds", large().simulate(seed, 60), replayed(large(), seed, 60));
            different += large().simulate(seed, 59) != large().simulate(seed, 60) ? 1 : 0;
        }
        due("the 60th round is seen", different > 0 ? 1 : 0, 1);
    }

    @Sentence(promise = 28, value = "Returns the sum of the progress of all tasks at the end, plus 100 times the sum of"
            + " all wasted steps (both with what there was already).")
    static void progressAndWaste() {
        Supplier<ClaimedTasks> six = () -> Scene.loaded("C05" + "a000000".repeat(6) + "t00001");
        roundIs("five are wasted", six, 7, 501);
        Supplier<ClaimedTasks> after = () -> {
            ClaimedTasks x = six.get();
            x.step(1);
            return x;
        };
        roundIs("five were wasted", after, 7, 501);
        roundIs("one that has wasted is switched off", after, 8, 501);
        roundIs("nothing", () -> Scene.loaded("C05a000000"), 7, 0);
        Supplier<ClaimedTasks> eight = () -> Scene.loaded("C05" + "t00009".repeat(8) + "a000000");
        due("the first of eight tasks", eight.get().simulate(Scene.seedFor(7), 1), 1);
    }

    @Sentence(promise = 28, value = "Throws `IllegalArgumentException` if m is out of range")
    static void wrongRounds() {
        for (int bad : outside(1, 60)) {
            refused("simulate(0, " + bad + ")", Boundary::busy, x -> x.simulate(0, bad), ARGUMENT);
            refused("simulate(-1, " + bad + ") of nobody", ClaimedTasks::new, x -> x.simulate(-1, bad), ARGUMENT);
        }
    }
}
