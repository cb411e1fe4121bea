import java.util.List;
import java.util.function.Supplier;
import java.util.function.ToIntFunction;

/** Boundary cases of the document's section EXCEPTIONS: which one, in which order, and to no effect. */
public final class ExceptionBoundaryTest extends Boundary {
    private static final List<Supplier<ClaimedTasks>> OBJECTS = List.of(ClaimedTasks::new, Boundary::busy, Boundary::full);

    public static void main(String[] args) {
        runAll(ExceptionBoundaryTest.class);
    }

    /** Refused by a new object, one with three agents and two tasks, and one that can hold no more. */
    private static void refusedByAll(String call, ToIntFunction<ClaimedTasks> made, Class<? extends RuntimeException> want) {
        for (Supplier<ClaimedTasks> object : OBJECTS) {
            refused(call, object, made, want);
        }
    }

    /** Refused by those that have agents and tasks: the others find the index wrong. */
    private static void refusedByBoth(String call, ToIntFunction<ClaimedTasks> made, Class<? extends RuntimeException> want) {
        refused(call, Boundary::busy, made, want);
        refused(call, Boundary::full, made, want);
    }

    @Sentence(promise = 0, value = "IndexOutOfBoundsException means that an agent or a task does not exist,")
    static void agentsAndTasksThatDoNotExist() {
        for (int bad : new int[] {-1, 8, 32, Integer.MIN_VALUE, Integer.MAX_VALUE}) {
            refusedByAll("agent(" + bad + ")", x -> x.agent(bad, 0), INDEX);
            refusedByAll("task(" + bad + ")", x -> x.task(bad, 0), INDEX);
            refusedByAll("note of agent " + bad, x -> x.note(bad, 0, 0), INDEX);
            refusedByAll("note of task " + bad, x -> x.note(0, bad, 0), INDEX);
            refusedByAll("setRange of " + bad, x -> x.setRange(bad, 0), INDEX);
            refusedByAll("put of " + bad, x -> x.put(bad, 0, 0), INDEX);
            refusedByAll("toggle of " + bad, x -> x.toggle(bad), INDEX);
            refusedByAll("handOver of " + bad, x -> x.handOver(bad, 0), INDEX);
            refusedByAll("handOver to " + bad, x -> x.handOver(0, bad), INDEX);
            refusedByAll("drop of " + bad, x -> x.drop(bad), INDEX);
            refusedByAll("hops from " + bad, x -> x.hops(bad, 0), INDEX);
            refusedByAll("hops to " + bad, x -> x.hops(0, bad), INDEX);
            refusedByAll("knownAfter of " + bad, x -> x.knownAfter(bad), INDEX);
            if (bad != -1) {
                refusedByAll("bestShare of " + bad, x -> x.bestShare(bad), INDEX);
            }
        }
    }

    @Sentence(promise = 0, value = "or that a slot is not 0 or 1.")
    static void slotsThatDoNotExist() {
        for (int bad : outside(0, 1)) {
            refusedByAll("save(" + bad + ")", x -> x.save(bad), INDEX);
            refusedByAll("restore(" + bad + ")", x -> x.restore(bad), INDEX);
        }
    }

    @Sentence(promise = 0, value = "IllegalArgumentException means that another argument is out of its range.")
    static void argumentsOutOfTheirRange() {
        for (int bad : new int[] {-1, 256, Integer.MIN_VALUE, Integer.MAX_VALUE}) {
            refusedByAll("append(" + bad + ")", x -> x.append(bad), ARGUMENT);
            refusedByAll("about(" + bad + ")", x -> x.about(bad), ARGUMENT);
            refusedByBoth("agent(0, " + bad + ")", x -> x.agent(0, bad), ARGUMENT);
            refusedByBoth("task(0, " + bad + ")", x -> x.task(0, bad), ARGUMENT);
            refusedByBoth("note(0, 0, " + bad + ")", x -> x.note(0, 0, bad), ARGUMENT);
            refusedByAll("step(" + bad + ")", x -> x.step(bad), ARGUMENT);
            refusedByBoth("setRange(0, " + bad + ")", x -> x.setRange(0, bad), ARGUMENT);
            refusedByBoth("put(0, " + bad + ", 0)", x -> x.put(0, bad, 0), ARGUMENT);
            refusedByBoth("put(0, 0, " + bad + ")", x -> x.put(0, 0, bad), ARGUMENT);
            refusedByAll("setLifetime(" + bad + ")", x -> x.setLifetime(bad), ARGUMENT);
            refusedByAll("conflicts(" + bad + ")", x -> x.conflicts(bad), ARGUMENT);
            refusedByAll("finishedAfter(" + bad + ")", x -> x.finishedAfter(bad), ARGUMENT);
            refusedByAll("wastedIf(" + bad + ", 1)", x -> x.wastedIf(bad, 1), ARGUMENT);
            refusedByAll("wastedIf(0, " + bad + ")", x -> x.wastedIf(0, bad), ARGUMENT);
            refusedByAll("worstLoss(" + bad + ")", x -> x.worstLoss(bad), ARGUMENT);
            refusedByAll("runScript(" + bad + ", 10001)", x -> x.runScript(bad, 10001), ARGUMENT);
            refusedByAll("simulate(0, " + bad + ")", x -> x.simulate(0, bad), ARGUMENT);
        }
        refusedByAll("runScript(1, -1)", x -> x.runScript(1, -1), ARGUMENT);
        refusedByAll("runScript(1, 100000)", x -> x.runScript(1, 100000), ARGUMENT);
        refusedByBoth("handOver(0, 0)", x -> x.handOver(0, 0), ARGUMENT);
    }

    @Sentence(promise = 0, value = "IllegalStateException means what the method says.")
    static void statesThatDoNotAllowACall() {
        refused("append to a full text", Boundary::full, x -> x.append('C'), STATE);
        refused("load of a wrong text", Boundary::full, ClaimedTasks::load, STATE);
        refused("load of no text", ClaimedTasks::new, ClaimedTasks::load, STATE);
        refused("handOver of no claim", () -> Scene.loaded(TWO), x -> x.handOver(0, 1), STATE);
        refused("undo of nothing", ClaimedTasks::new, ClaimedTasks::undo, STATE);
        refused("restore of nothing", ClaimedTasks::new, x -> x.restore(0), STATE);
        refused("restore of nothing", ClaimedTasks::new, x -> x.restore(1), STATE);
    }

    @Sentence(promise = 0, value = "If several exceptions apply to a call, the one that its description names first is"
            + " thrown.")
    static void theExceptionThatIsNamedFirst() {
        refused("append: the argument before the state", Boundary::full, x -> x.append(256), ARGUMENT);
        refused("append: the argument before the state", Boundary::full, x -> x.append(-1), ARGUMENT);
        refusedByAll("agent: the index before the argument", x -> x.agent(6, 8), INDEX);
        refusedByAll("task: the index before the argument", x -> x.task(8, 7), INDEX);
        refusedByAll("note: an index before the argument", x -> x.note(6, 0, 4), INDEX);
        refusedByAll("note: the other index before the argument", x -> x.note(0, 8, 4), INDEX);
        refusedByAll("setRange: the index before the argument", x -> x.setRange(6, 23), INDEX);
        refusedByAll("put: the index before the arguments", x -> x.put(6, 12, 12), INDEX);
        refusedByAll("handOver: the index before the argument", x -> x.handOver(6, 6), INDEX);
        refusedByAll("handOver: the index before the state", x -> x.handOver(6, 0), INDEX);
        refusedByAll("handOver: the other index before the state", x -> x.handOver(0, 6), INDEX);
        // An agent that is the same does not hear itself, and both have a claim or none.
        refused("handOver: the argument before the state", () -> Scene.loaded(TWO), x -> x.handOver(1, 1), ARGUMENT);
        refused("handOver: the argument before the state", Boundary::full, x -> x.handOver(3, 3), ARGUMENT);
        refused("restore: the index before the state", ClaimedTasks::new, x -> x.restore(2), INDEX);
        refused("restore: the index before the state", ClaimedTasks::new, x -> x.restore(-1), INDEX);
    }

    @Sentence(promise = 0, value = "A call that throws an exception changes nothing.")
    static void manyRefusalsInARow() {
        for (Supplier<ClaimedTasks> object : OBJECTS) {
            same("the object after many refusals", Whole.of(() -> refusedOften(object.get())), Whole.of(object));
        }
    }

    private static ClaimedTasks refusedOften(ClaimedTasks x) {
        List<ToIntFunction<ClaimedTasks>> calls = List.of(y -> y.append(256), y -> y.about(8), y -> y.agent(6, 0),
                y -> y.task(8, 0), y -> y.note(6, 8, 4), y -> y.step(0), y -> y.step(100), y -> y.setRange(6, 0),
                y -> y.setRange(0, 23), y -> y.put(6, 0, 0), y -> y.put(0, 12, 3), y -> y.put(0, 3, 12),
                y -> y.toggle(6), y -> y.handOver(0, 6), y -> y.handOver(0, 0), y -> y.drop(6), y -> y.setLifetime(21),
                y -> y.hops(0, 6), y -> y.conflicts(3), y -> y.finishedAfter(9), y -> y.knownAfter(8),
                y -> y.wastedIf(23, 1), y -> y.worstLoss(0), y -> y.bestShare(6), y -> y.runScript(0, 0),
                y -> y.runScript(3, -1), y -> y.simulate(0, 61), y -> y.save(2), y -> y.restore(2));
        int thrown = 0;
        for (ToIntFunction<ClaimedTasks> call : calls) {
            try {
                call.applyAsInt(x);
            } catch (IllegalArgumentException | IndexOutOfBoundsException e) {
                thrown++;
            }
        }
        due("refusals", thrown, calls.size());
        return x;
    }
}
