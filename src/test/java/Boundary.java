import java.lang.reflect.InvocationTargetException;
import java.lang.reflect.Method;
import java.util.Arrays;
import java.util.Comparator;
import java.util.function.Supplier;
import java.util.function.ToIntFunction;
import java.util.stream.IntStream;

/**
 * What the boundary tests share. Each of their methods that bears a Sentence is a test of its own
 * for that sentence of the document.
 */
abstract class Boundary {
    static final int NONE = -9;
    static final Class<IndexOutOfBoundsException> INDEX = IndexOutOfBoundsException.class;
    static final Class<IllegalArgumentException> ARGUMENT = IllegalArgumentException.class;
    static final Class<IllegalStateException> STATE = IllegalStateException.class;
    static final String SIX_AGENTS = "a000022a110022a001122a111122a050522a060622";
    static final String EIGHT_TASKS = "t00009t11119t00119t11009t05069t06059t02029t09099";
    // Both hear each other; agent 0 is nearer to the one task and has it after two steps.
    static final String TWO = "C05a000022a030022t01005";
    private static final Check CHECK = new Check();

    /** Runs every test of a class, and ends with exit code 1 if an answer is not as due. */
    static void runAll(Class<? extends Boundary> tests) {
        Method[] methods = Arrays.stream(tests.getDeclaredMethods())
                .filter(m -> m.isAnnotationPresent(Sentence.class))
                .sorted(Comparator.comparing(Method::getName))
                .toArray(Method[]::new);
        CHECK.isTrue("there are no tests", methods.length > 0);
        for (Method m : methods) {
            run(m);
        }
        System.out.println(methods.length + " boundary tests");
        CHECK.end();
    }

    private static void run(Method m) {
        int before = CHECK.wrong();
        try {
            m.setAccessible(true);
            m.invoke(null);
        } catch (InvocationTargetException e) {
            CHECK.complain("threw " + e.getCause());
        } catch (IllegalAccessException e) {
            CHECK.complain("could not be run");
        }
        if (CHECK.wrong() > before) {
            Sentence s = m.getAnnotation(Sentence.class);
            System.out.println("  in " + m.getName() + ", for promise " + s.promise() + ": " + s.value());
        }
    }

    static void due(String call, long got, long want) {
        CHECK.due(call, got, want);
    }

    static void same(String what, Object got, Object want) {
        CHECK.isTrue(what + " is not the same", got.equals(want));
    }

    /** The call throws what is due, and changes nothing: not even what is remembered, saved or typed. */
    static void refused(String call, Supplier<ClaimedTasks> maker, ToIntFunction<ClaimedTasks> made,
            Class<? extends RuntimeException> want) {
        CHECK.throwsDue(call, () -> made.applyAsInt(maker.get()), want);
        same("after " + call + ", the object", Whole.of(() -> tried(maker.get(), made)), Whole.of(maker));
    }

    private static ClaimedTasks tried(ClaimedTasks x, ToIntFunction<ClaimedTasks> made) {
        try {
            made.applyAsInt(x);
        } catch (RuntimeException e) {
            // What it throws is looked at elsewhere; here it counts what it leaves.
            return x;
        }
        return x;
    }

    /** The call answers what is due, and changes nothing. */
    static void asked(String call, Supplier<ClaimedTasks> maker, ToIntFunction<ClaimedTasks> made, int want) {
        due(call, made.applyAsInt(maker.get()), want);
        same("after " + call + ", the object", Whole.of(() -> tried(maker.get(), made)), Whole.of(maker));
    }

    /** Numbers that are not from low to high: those next to them, and some that wrap around to them. */
    static int[] outside(int low, int high) {
        return IntStream.of(low - 1, high + 1, low - 32, low + 32, high + 64, low - 256, low + 256, low + 65536,
                        -high - 1, Integer.MIN_VALUE, Integer.MIN_VALUE + low, Integer.MAX_VALUE)
                .filter(v -> v < low || v > high).distinct().toArray();
    }

    /** Three agents and two tasks; five states are remembered, both slots are full, a text is typed. */
    static ClaimedTasks busy() {
        ClaimedTasks x = Scene.loaded("C05a000022a030022a090905t01005t05003");
        x.step(2);
        x.save(0);
        x.setRange(1, 7);
        x.put(2, 8, 10);
        x.save(1);
        x.toggle(2);
        x.step(1);
        x.clearText();
        Scene.type(x, "C09a010203t04056");
        return x;
    }

    /** Six agents, eight tasks, fourteen remembered states; the text can be no longer. */
    static ClaimedTasks full() {
        ClaimedTasks x = Scene.loaded("C20" + SIX_AGENTS + EIGHT_TASKS);
        x.save(1);
        for (int i = 0; i < 14; i++) {
            x.step(1);
            if (i == 5) {
                x.save(0);
            }
        }
        Scene.type(x, "x".repeat(120 - 93));
        return x;
    }
}
