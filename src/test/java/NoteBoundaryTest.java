/** Boundary cases of the document's section NOTES. */
public final class NoteBoundaryTest extends Boundary {
    public static void main(String[] args) {
        runAll(NoteBoundaryTest.class);
    }

    static void noteIs(String when, ClaimedTasks x, int a, int t, int... want) {
        for (int what = 0; what < 4; what++) {
            due(when + ": note(" + a + ", " + t + ", " + what + ")", x.note(a, t, what),
                    what < want.length ? want[what] : NONE);
        }
    }

    @Sentence(promise = 0, value = "Each agent has a note for each task, which is empty at first.")
    static void allNotesAreEmptyAtFirst() {
        ClaimedTasks x = Scene.loaded("C05" + SIX_AGENTS + EIGHT_TASKS);
        for (int a = 0; a < 6; a++) {
            for (int t = 0; t < 8; t++) {
                due("note(" + a + ", " + t + ", 0)", x.note(a, t, 0), 0);
            }
        }
        ClaimedTasks y = Scene.loaded("C05a000000");
        refused("a note without tasks", () -> Scene.loaded("C05a000000"), z -> z.note(0, 0, 0), INDEX);
        refused("a note without agents", () -> Scene.loaded("C05t00001"), z -> z.note(0, 0, 0), INDEX);
        due("a step without notes", y.step(1), 0);
    }

    @Sentence(promise = 0, value = "A note is empty, or it says that the task is finished, or it is a claim,"
            + " which has an owner (an agent), a distance, and an expiry (a number).")
    static void theThreeKinds() {
        ClaimedTasks x = Scene.loaded("C05a000000t00002");
        noteIs("empty", x, 0, 0, 0);
        x.step(1);
        noteIs("a claim", x, 0, 0, 1, 0, 0, 5);
        x.step(1);
        noteIs("finished", x, 0, 0, 2);
    }

    @Sentence(promise = 0, value = "A claim is expired if its expiry is at most the clock.")
    static void expiredWhenTheClockIsThere() {
        // Agent 0 is switched off, so that its claim, with the expiry 3, is not renewed.
        ClaimedTasks x = Scene.loaded("C03a000000t05009");
        x.step(1);
        x.toggle(0);
        x.step(1);
        due("expiry", x.note(0, 0, 3), 3);
        due("own task at 2", x.agent(0, 4), 0);
        x.step(1);
        due("own task at 3", x.agent(0, 4), NONE);
        due("it is still a claim", x.note(0, 0, 0), 1);
        x.step(1);
        due("own task at 4", x.agent(0, 4), NONE);
    }

    @Sentence(promise = 0, value = "A claim is expired if its expiry is at most the clock.")
    static void expiredForLong() {
        // Agent 1 sleeps with a claim of distance 0 and the expiry 2; agent 0 comes from far away.
        for (int clock = 2; clock <= 4; clock++) {
            ClaimedTasks x = Scene.loaded("C02a090022a000022t00009");
            x.step(1);
            x.toggle(1);
            x.step(clock - 1);
            x.toggle(1);
            noteIs("agent 0 before", x, 0, 0, 1, 0, 10 - clock, clock + 1);
            noteIs("agent 1 before", x, 1, 0, 1, 1, 0, 2);
            x.step(1);
            noteIs("agent 0 keeps its own, at " + clock, x, 0, 0, 1, 0, 9 - clock, clock + 2);
            noteIs("agent 1 takes it, at " + clock, x, 1, 0, 1, 0, 10 - clock, clock + 1);
        }
    }

    @Sentence(promise = 0, value = "one that says that it is finished is better than one that does not;")
    static void finishedIsBetterThanTheBestClaim() {
        // Agent 1 does the last of task 0; agent 0 has a claim of the smallest distance and owner.
        ClaimedTasks x = Scene.loaded("C05a000000a000000t00002");
        x.step(1);
        noteIs("agent 0 at 1", x, 0, 0, 1, 0, 0, 5);
        noteIs("agent 1 at 1", x, 1, 0, 2);
        x.step(1);
        noteIs("agent 0 at 2", x, 0, 0, 2);
        noteIs("agent 1 at 2", x, 1, 0, 2);
        due("nothing is wasted", x.about(6), 0);
    }

    @Sentence(promise = 0, value = "one that says that it is finished is better than one that does not;")
    static void finishedIsBetterThanAnEmptyNote() {
        ClaimedTasks x = Scene.loaded("C05a000022a050022t00001t05009");
        x.step(1);
        noteIs("agent 1 at 1", x, 1, 0, 0);
        x.step(1);
        noteIs("agent 1 at 2", x, 1, 0, 2);
        noteIs("agent 0 at 2", x, 0, 0, 2);
    }

    @Sentence(promise = 0, value = "one that says that it is finished is better than one that does not;")
    static void finishedIsBetterThanAnExpiredClaim() {
        // Agent 1 sleeps until its own claim of task 0 is expired; agent 0 finishes the task.
        ClaimedTasks x = Scene.loaded("C02a000022a010022t00003");
        x.step(1);
        x.toggle(1);
        x.step(2);
        x.toggle(1);
        noteIs("agent 1 at 3", x, 1, 0, 1, 1, 1, 2);
        x.step(1);
        noteIs("agent 1 at 4", x, 1, 0, 2);
    }

    @Sentence(promise = 0, value = "a claim that is not expired is better than an empty note or an expired claim;")
    static void aLiveClaimIsBetterThanAnEmptyNote() {
        ClaimedTasks x = Scene.loaded("C05a000022a110022t00009t11009");
        x.step(1);
        noteIs("agent 0 at 1", x, 0, 1, 0);
        noteIs("agent 1 at 1", x, 1, 0, 0);
        x.step(1);
        noteIs("agent 0 at 2", x, 0, 1, 1, 1, 0, 5);
        noteIs("agent 1 at 2", x, 1, 0, 1, 0, 0, 5);
    }

    /** At 2, the claim of agent 1 (distance 0) has just expired; that of agent 0 (4) has not. */
    private static ClaimedTasks oneExpired() {
        ClaimedTasks x = Scene.loaded("C02a050022a000022t00009");
        x.step(1);
        x.toggle(1);
        x.step(1);
        x.toggle(1);
        return x;
    }

    @Sentence(promise = 0, value = "a claim that is not expired is better than an empty note or an expired claim;")
    static void aLiveClaimIsBetterThanAnExpiredOne() {
        ClaimedTasks x = oneExpired();
        noteIs("agent 0 at 2", x, 0, 0, 1, 0, 4, 3);
        noteIs("agent 1 at 2", x, 1, 0, 1, 1, 0, 2);
        x.step(1);
        noteIs("agent 0 at 3", x, 0, 0, 1, 0, 3, 4);
        noteIs("agent 1 at 3", x, 1, 0, 1, 0, 4, 3);
    }

    @Sentence(promise = 0, value = "a claim that is not expired is better than an empty note or an expired claim;")
    static void aNearerExpiredClaimTakesNothingAway() {
        // Agent 0 works on task 1 and has heard of agent 2's claim of task 0: it would not claim
        // task 0 itself, so that the loss of this note would be seen.
        ClaimedTasks x = Scene.loaded("C02a090022a000022a040022t00009t09009");
        x.toggle(0);
        x.toggle(2);
        x.step(1);
        x.toggle(1);
        x.toggle(0);
        x.toggle(2);
        x.setLifetime(20);
        x.step(2);
        x.toggle(2);
        x.toggle(1);
        noteIs("agent 0 at 3", x, 0, 0, 1, 2, 4, 21);
        noteIs("agent 1 at 3", x, 1, 0, 1, 1, 0, 2);
        x.step(1);
        noteIs("agent 0 at 4", x, 0, 0, 1, 2, 4, 21);
        noteIs("agent 1 at 4", x, 1, 0, 1, 2, 4, 21);
    }

    @Sentence(promise = 0, value = "of two claims that are not expired the one with the smaller distance,")
    static void theSmallerDistanceIsBetter() {
        // The greater owner is one place nearer.
        ClaimedTasks x = Scene.loaded("C05a020022a010022t00009");
        x.step(2);
        noteIs("agent 0", x, 0, 0, 1, 1, 1, 5);
        noteIs("agent 1", x, 1, 0, 1, 1, 0, 6);
        ClaimedTasks y = Scene.loaded("C05a010022a020022t00009");
        y.step(2);
        noteIs("agent 0, nearer", y, 0, 0, 1, 0, 0, 6);
        noteIs("agent 1, farther", y, 1, 0, 1, 0, 1, 5);
    }

    @Sentence(promise = 0, value = "of two claims that are not expired the one with the smaller distance,")
    static void theSmallerDistanceComesBeforeTheGreaterExpiry() {
        // Agent 1 claims with the lifetime 20; agent 0, nearer, with the lifetime 2.
        ClaimedTasks x = Scene.loaded("C20a010022a020022t00009");
        x.toggle(0);
        x.step(1);
        x.put(1, 2, 0);
        x.toggle(0);
        x.toggle(1);
        x.setLifetime(2);
        x.step(1);
        x.toggle(1);
        noteIs("agent 0 at 2", x, 0, 0, 1, 0, 1, 3);
        noteIs("agent 1 at 2", x, 1, 0, 1, 1, 2, 20);
        x.step(1);
        noteIs("agent 1 at 3", x, 1, 0, 1, 0, 1, 3);
        noteIs("agent 0 at 3", x, 0, 0, 1, 0, 0, 4);
    }

    @Sentence(promise = 0, value = "then the one with the smaller owner,")
    static void atTheSameDistanceTheSmallerOwner() {
        ClaimedTasks x = Scene.loaded("C05a010022a000122t00009");
        x.step(2);
        noteIs("agent 0", x, 0, 0, 1, 0, 0, 6);
        noteIs("agent 1", x, 1, 0, 1, 0, 1, 5);
        // The smaller owner comes before the greater expiry: 4 against 20.
        ClaimedTasks y = Scene.loaded("C20a010022a000122t00009");
        y.toggle(0);
        y.step(1);
        y.toggle(0);
        y.toggle(1);
        y.setLifetime(3);
        y.step(1);
        y.toggle(1);
        noteIs("agent 0 at 2", y, 0, 0, 1, 0, 1, 4);
        noteIs("agent 1 at 2", y, 1, 0, 1, 1, 1, 20);
        y.step(1);
        noteIs("agent 1 at 3", y, 1, 0, 1, 0, 1, 4);
    }

    @Sentence(promise = 0, value = "then the one with the greater expiry is better.")
    static void ofTheSameClaimTheGreaterExpiry() {
        // Agent 0 stands on the task: only the expiry of its claim changes, by 1 in each step.
        ClaimedTasks x = Scene.loaded("C05a000022a030022t00009");
        x.step(2);
        noteIs("agent 1 at 2", x, 1, 0, 1, 0, 0, 5);
        x.step(1);
        noteIs("agent 1 at 3", x, 1, 0, 1, 0, 0, 6);
        // With the lifetime 4 the next expiry is the same, with 2 the one after it is smaller.
        x.setLifetime(4);
        x.step(1);
        noteIs("agent 0 at 4", x, 0, 0, 1, 0, 0, 7);
        noteIs("agent 1 at 4", x, 1, 0, 1, 0, 0, 7);
        x.setLifetime(2);
        x.step(1);
        noteIs("agent 0 at 5", x, 0, 0, 1, 0, 0, 6);
        x.step(1);
        noteIs("agent 1 at 6 keeps the greater one", x, 1, 0, 1, 0, 0, 7);
    }

    @Sentence(promise = 0, value = "Otherwise neither is better.")
    static void expiredClaimsWinNothing() {
        // With the lifetime 1 all claims are expired in the next step: each claims anew.
        ClaimedTasks x = Scene.loaded("C01a000022a030022t00009");
        for (int n = 1; n <= 3; n++) {
            x.step(1);
            noteIs("agent 0 at " + n, x, 0, 0, 1, 0, 0, n);
            noteIs("agent 1 at " + n, x, 1, 0, 1, 1, 4 - n, n);
        }
    }

    @Sentence(promise = 0, value = "Otherwise neither is better.")
    static void equalNotesStay() {
        // Both know: finished against finished changes nothing, step after step.
        ClaimedTasks x = Scene.loaded("C05a000000a000000t00001");
        x.step(2);
        int[] before = Scene.allOf(x);
        x.step(1);
        int[] after = Scene.allOf(x);
        due("the clock goes on", after[2], before[2] + 1);
        after[2] = before[2];
        same("all but the clock", java.util.Arrays.toString(after), java.util.Arrays.toString(before));
    }

    @Sentence(promise = 0, value = "An agent has a claim if one of its notes is a claim of which it is the owner"
            + " and which is not expired.")
    static void onlyAnOwnLiveClaimCounts() {
        ClaimedTasks x = Scene.loaded(TWO);
        due("an empty note", x.agent(0, 4), NONE);
        x.step(2);
        noteIs("agent 1 holds the claim of 0", x, 1, 0, 1, 0, 1, 5);
        due("a claim of another owner", x.agent(1, 4), NONE);
        due("an own claim", x.agent(0, 4), 0);
        x.toggle(0);
        due("an own claim of one that is off", x.agent(0, 4), 0);
        ClaimedTasks y = oneExpired();
        due("an own claim that is expired", y.agent(1, 4), NONE);
        due("an own claim that expires next", y.agent(0, 4), 0);
        ClaimedTasks z = Scene.loaded("C05a000000t00001");
        z.step(1);
        due("a note that says finished", z.agent(0, 4), NONE);
    }

    @Sentence(promise = 0, value = "Its own task is the task of this note.")
    static void ownTaskFromTheFirstToTheLast() {
        for (int t = 0; t < 8; t++) {
            ClaimedTasks x = Scene.loaded("C05a000000" + "t11111".repeat(t) + "t00009" + "t11111".repeat(7 - t));
            x.step(1);
            due("own task", x.agent(0, 4), t);
        }
    }
}
