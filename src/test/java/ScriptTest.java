/** Promises 27 and 28: runScript and simulate. */
public final class ScriptTest {
    private static final Check CHECK = new Check();
    private static final Scene SCENE = new Scene(CHECK);
    private static final Class<IllegalArgumentException> ARGUMENT = IllegalArgumentException.class;
    private static final int FINE = -9;
    // Both hear each other; agent 0 is nearer to the one task and has it after two steps.
    private static final String TWO = "C05a000022a030022t01005";

    public static void main(String[] args) {
        steps();
        ranges();
        switches();
        handovers();
        drops();
        questions();
        otherGroups();
        order();
        wrongScripts();
        simulateSwitches();
        simulateRanges();
        simulatePlaces();
        simulateRounds();
        simulateWrong();
        CHECK.end();
    }

    private static void scriptIs(ClaimedTasks x, int n, long script, int want) {
        SCENE.asked(x, "runScript " + n + " " + script, () -> x.runScript(n, script), want);
    }

    private static void steps() {
        ClaimedTasks x = Scene.loaded(TWO);
        scriptIs(x, 1, 10001, FINE);
        scriptIs(x, 1, 10099, FINE);
        scriptIs(x, 1, 10000, 0);
        scriptIs(x, 1, 10101, 0);
        scriptIs(x, 1, 11001, 0);
        scriptIs(x, 2, 1000560001L, 1);
        scriptIs(x, 2, 1000660001L, FINE);
    }

    private static void ranges() {
        ClaimedTasks x = Scene.loaded("C09a000000a030000t00001t00051");
        scriptIs(x, 1, 20022, FINE);
        scriptIs(x, 1, 21000, FINE);
        scriptIs(x, 1, 21023, 0);
        scriptIs(x, 1, 21099, 0);
        scriptIs(x, 1, 22000, 0);
        scriptIs(x, 1, 29000, 0);
        scriptIs(x, 1, 21100, 0);
        scriptIs(x, 2, 1000490000L, 1);
        // With the ranges 22 nothing is wasted; the range of one alone does not help.
        scriptIs(x, 3, 200221000490000L, 2);
        x.setRange(1, 22);
        scriptIs(x, 3, 200221000490000L, FINE);
    }

    private static void switches() {
        ClaimedTasks x = Scene.loaded(TWO);
        scriptIs(x, 1, 30000, FINE);
        scriptIs(x, 1, 31000, FINE);
        scriptIs(x, 1, 32000, 0);
        scriptIs(x, 1, 31001, 0);
        scriptIs(x, 1, 31100, 0);
        scriptIs(x, 3, 300001000680000L, FINE);
        scriptIs(x, 3, 300001000660001L, 2);
        scriptIs(x, 3, 300001000760001L, FINE);
        x.toggle(0);
        scriptIs(x, 3, 300001000660001L, FINE);
    }

    private static void handovers() {
        ClaimedTasks x = Scene.loaded(TWO);
        scriptIs(x, 1, 40100, 0);
        x.step(2);
        scriptIs(x, 1, 40100, FINE);
        scriptIs(x, 1, 40101, 0);
        scriptIs(x, 1, 40110, 0);
        scriptIs(x, 1, 40000, 0);
        scriptIs(x, 1, 41000, 0);
        scriptIs(x, 1, 40200, 0);
        scriptIs(x, 1, 42000, 0);
        scriptIs(x, 1, 49900, 0);
        scriptIs(x, 2, 4010071000L, FINE);
        scriptIs(x, 2, 4010070000L, 1);
        scriptIs(x, 3, 401004100070000L, FINE);
        scriptIs(x, 2, 2000040100L, 1);
        scriptIs(x, 2, 3100040100L, 1);
    }

    private static void drops() {
        ClaimedTasks x = Scene.loaded(TWO);
        scriptIs(x, 1, 50000, FINE);
        scriptIs(x, 1, 52000, 0);
        scriptIs(x, 1, 50001, 0);
        scriptIs(x, 1, 50100, 0);
        x.step(2);
        scriptIs(x, 2, 5000070000L, 1);
        scriptIs(x, 2, 5100070000L, FINE);
    }

    private static void questions() {
        ClaimedTasks x = Scene.loaded(TWO);
        scriptIs(x, 1, 60000, FINE);
        scriptIs(x, 1, 60001, 0);
        scriptIs(x, 1, 60010, 0);
        scriptIs(x, 1, 60100, 0);
        scriptIs(x, 1, 61000, 0);
        scriptIs(x, 1, 70000, 0);
        scriptIs(x, 1, 80000, FINE);
        scriptIs(x, 1, 80001, 0);
        scriptIs(x, 1, 90000, FINE);
        scriptIs(x, 1, 90099, FINE);
        scriptIs(x, 1, 90100, 0);
        scriptIs(x, 1, 91000, 0);
        x.step(1);
        scriptIs(x, 1, 70000, FINE);
        scriptIs(x, 1, 71000, FINE);
        scriptIs(x, 1, 70001, 0);
        scriptIs(x, 1, 70010, 0);
        scriptIs(x, 1, 70100, 0);
        scriptIs(x, 1, 72000, 0);
        scriptIs(x, 1, 80001, FINE);
        scriptIs(x, 1, 80000, 0);
        scriptIs(x, 1, 80011, 0);
        scriptIs(x, 1, 80101, 0);
        scriptIs(x, 1, 81001, 0);
        ClaimedTasks y = Scene.loaded("C05a000000a000000a000000t00001");
        y.step(1);
        scriptIs(y, 1, 90001, 0);
        scriptIs(y, 1, 90002, FINE);
        scriptIs(y, 1, 90010, FINE);
        scriptIs(y, 1, 60001, FINE);
    }

    private static void otherGroups() {
        ClaimedTasks x = Scene.loaded(TWO);
        scriptIs(x, 1, 0, 0);
        scriptIs(x, 1, 1, 0);
        scriptIs(x, 1, 9999, 0);
        ClaimedTasks none = new ClaimedTasks();
        scriptIs(none, 1, 20000, 0);
        scriptIs(none, 1, 30000, 0);
        scriptIs(none, 1, 40100, 0);
        scriptIs(none, 1, 50000, 0);
        scriptIs(none, 1, 70000, 0);
        scriptIs(none, 3, 600008000010005L, FINE);
    }

    private static void order() {
        ClaimedTasks x = Scene.loaded(TWO);
        scriptIs(x, 2, 10001, 0);
        scriptIs(x, 3, 6000060000L, 0);
        scriptIs(x, 3, 600006000060000L, FINE);
        scriptIs(x, 3, 600006000060001L, 2);
        scriptIs(x, 3, 600006000160001L, 1);
        scriptIs(x, 3, 600016000160001L, 0);
        scriptIs(x, 3, 999999999999999L, 0);
    }

    private static void wrongScripts() {
        ClaimedTasks x = Scene.loaded(TWO);
        x.step(1);
        for (int bad : new int[] {0, -1, 4, Integer.MIN_VALUE, Integer.MAX_VALUE}) {
            SCENE.refused(x, "runScript of " + bad, () -> x.runScript(bad, 10001), ARGUMENT);
        }
        SCENE.refused(x, "negative", () -> x.runScript(1, -1), ARGUMENT);
        SCENE.refused(x, "smallest", () -> x.runScript(3, Long.MIN_VALUE), ARGUMENT);
        SCENE.refused(x, "six digits", () -> x.runScript(1, 100000), ARGUMENT);
        SCENE.refused(x, "eleven digits", () -> x.runScript(2, 10000000000L), ARGUMENT);
        SCENE.refused(x, "sixteen digits", () -> x.runScript(3, 1000000000000000L), ARGUMENT);
        SCENE.refused(x, "greatest", () -> x.runScript(3, Long.MAX_VALUE), ARGUMENT);
        CHECK.due("a script is no action", x.undo(), 0);
    }

    private static void roundIs(String name, ClaimedTasks x, long r, int want) {
        SCENE.asked(x, name + ", r = " + r, () -> x.simulate(Scene.seedFor(r), 1), want);
    }

    private static void simulateSwitches() {
        // Agent 0 stands on task 0 and works; agent 1 is on its way.
        ClaimedTasks x = Scene.loaded("C05a000000a110000t00009t05009");
        for (int r = 3; r <= 7; r++) {
            roundIs("nothing happens", x, r, 1);
        }
        roundIs("agent 0 is switched off", x, 0, 0);
        roundIs("agent 1 is switched off", x, 8, 1);
        roundIs("agent 0 again", x, 16, 0);
        x.toggle(0);
        roundIs("agent 0 is switched on", x, 0, 1);
        roundIs("agent 1 is switched off, 0 stays off", x, 8, 0);
        x.toggle(0);
        x.step(3);
        roundIs("with the progress there was", x, 3, 4);
        // The greatest r is 2147483647: it is odd, 7 by 8.
        roundIs("the greatest r", x, 2147483647L, 4);
    }

    private static void simulateRanges() {
        // Agent 1 stands on task 0, and does not know that agent 0, two places away, has done it.
        ClaimedTasks x = Scene.loaded("C09a000022a030000t00001t00051");
        x.step(3);
        roundIs("it hears nothing", x, 3, 101);
        roundIs("its range becomes 0", x, 9, 101);
        roundIs("its range becomes 1", x, 64 + 9, 101);
        roundIs("its range becomes 2", x, 2 * 64 + 9, 1);
        roundIs("its range becomes 22", x, 22 * 64 + 9, 1);
        roundIs("its range becomes 23 % 23", x, 23 * 64 + 9, 101);
        roundIs("its range becomes 24 % 23", x, 24 * 64 + 9, 101);
        roundIs("its range becomes 25 % 23", x, 25 * 64 + 9, 1);
        roundIs("the range of agent 0 becomes 22", x, 22 * 64 + 1, 101);
    }

    private static void simulatePlaces() {
        // Agent 1 works only if it is put on task 1; columns and rows must not be mixed up.
        ClaimedTasks x = Scene.loaded("C05a000000a110000t00009t07029");
        int found = 0;
        for (int r = 10; r < 200000; r += 16) {
            boolean there = r / 64 % 12 == 7 && r / 1024 % 12 == 2;
            if (there) {
                found++;
                CHECK.due("put on task 1, r = " + r, x.simulate(Scene.seedFor(r), 1), 2);
            } else if (r / 64 % 12 == 7 && r / 1024 % 12 <= 3 || r / 64 % 12 == 2 && r / 1024 % 12 == 7) {
                CHECK.due("put elsewhere, r = " + r, x.simulate(Scene.seedFor(r), 1), 1);
            }
        }
        CHECK.isTrue("places were found", found > 0);
    }

    private static void simulateRounds() {
        // The seed is for r = 7 in the first round; x goes on from there.
        ClaimedTasks x = Scene.loaded("C05a000000t00009");
        long next = (7L << 33) * 6364136223846793005L + 1442695040888963407L;
        int r = (int) (next >>> 33);
        CHECK.due("two rounds", x.simulate(Scene.seedFor(7), 2), r % 8 == 0 || r % 8 == 2 ? 1 : 2);
        ClaimedTasks y = Scene.loaded("C05t00009");
        CHECK.due("without agents", y.simulate(5, 60), 0);
        ClaimedTasks z = Scene.loaded("C05a000000");
        CHECK.due("without tasks", z.simulate(Long.MIN_VALUE, 60), 0);
        // Three agents on one task of work 1: two come too late.
        ClaimedTasks w = Scene.loaded("C05a000000a000000a000000t00001");
        CHECK.due("progress and waste", w.simulate(Scene.seedFor(7), 1), 201);
        w.step(1);
        CHECK.due("with the waste there was", w.simulate(Scene.seedFor(7), 1), 201);
    }

    private static void simulateWrong() {
        ClaimedTasks x = Scene.loaded(TWO);
        x.step(1);
        for (int bad : new int[] {0, -1, 61, Integer.MIN_VALUE, Integer.MAX_VALUE}) {
            SCENE.refused(x, "simulate " + bad, () -> x.simulate(1, bad), ARGUMENT);
        }
        SCENE.asked(x, "60 rounds end", () -> x.simulate(1, 60) >= 0 ? 1 : 0, 1);
        CHECK.due("simulate is no action", x.undo(), 0);
    }
}
