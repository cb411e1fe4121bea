import java.lang.reflect.InvocationTargetException;
import java.lang.reflect.Method;
import java.util.ArrayList;
import java.util.HashMap;
import java.util.List;
import java.util.Map;
import java.util.Random;

/** Sets the class and PlainModel side by side in many runs of calls with a fixed seed. */
public final class ModelTest {
    private static final int RUNS = 4000;
    private static final int CALLS = 90;
    /** The document promises nothing after so many calls. */
    private static final int LAST_CALL = 512;
    private static final int DEAREST_LOOK = 304;

    private final Check check = new Check();
    private final Random random = new Random(20261118);
    private final Map<String, Method> face = new HashMap<>();
    private final Map<String, Method> model = new HashMap<>();
    private final List<String> names = new ArrayList<>();
    private final Map<String, Integer> answered = new HashMap<>();
    private ClaimedTasks real;
    private PlainModel plain;
    private StringBuilder told;
    private boolean same;
    private int made;

    public static void main(String[] args) throws Exception {
        new ModelTest().run();
    }

    private void run() throws Exception {
        for (Method m : ClaimedTasks.class.getDeclaredMethods()) {
            if (java.lang.reflect.Modifier.isPublic(m.getModifiers())) {
                face.put(m.getName(), m);
                Method other = PlainModel.class.getDeclaredMethod(m.getName(), m.getParameterTypes());
                model.put(m.getName(), other);
                names.add(m.getName());
            }
        }
        names.sort(null);
        for (int i = 0; i < RUNS; i++) {
            oneRun();
        }
        for (String name : names) {
            check.isTrue(name + " never answered", answered.getOrDefault(name, 0) > RUNS / 20);
        }
        check.end();
    }

    private void oneRun() throws Exception {
        real = new ClaimedTasks();
        plain = new PlainModel();
        told = new StringBuilder();
        same = true;
        made = 0;
        if (random.nextInt(20) > 0) {
            type(text());
            call("errorPosition");
            call("load");
        }
        for (int i = 0; i < CALLS && same && made + 2 + DEAREST_LOOK <= LAST_CALL; i++) {
            anyCall();
        }
        wholeState();
        check.isTrue("a run has " + made + " calls", made <= LAST_CALL);
    }

    private void type(String text) throws Exception {
        for (char c : text.toCharArray()) {
            call("append", (int) c);
        }
    }

    private String text() {
        // A small corner makes agents meet; the whole grid makes them miss each other.
        int side = random.nextInt(3) == 0 ? 12 : 2 + random.nextInt(5);
        int agents = random.nextInt(7);
        int tasks = random.nextInt(9);
        int lifetime = random.nextBoolean() ? 1 + random.nextInt(20) : 1 + random.nextInt(4);
        StringBuilder b = new StringBuilder(String.format("C%02d", lifetime));
        while (agents + tasks > 0) {
            int x = random.nextInt(side);
            int y = random.nextInt(side);
            if (random.nextInt(agents + tasks) < agents) {
                agents--;
                b.append(String.format("a%02d%02d%02d", x, y, random.nextInt(random.nextBoolean() ? 23 : side + 1)));
            } else {
                tasks--;
                b.append(String.format("t%02d%02d%d", x, y, 1 + random.nextInt(random.nextBoolean() ? 9 : 3)));
            }
        }
        if (random.nextInt(12) == 0) {
            spoil(b);
        }
        return b.toString();
    }

    private void spoil(StringBuilder b) {
        int at = random.nextInt(b.length() + 1);
        String signs = "C0123456789at x\u00ff";
        char c = signs.charAt(random.nextInt(signs.length()));
        switch (random.nextInt(4)) {
            case 0 -> b.setLength(at);
            case 1 -> b.insert(at, c);
            case 2 -> b.append(random.nextBoolean() ? "a000000".repeat(3) : "t00001".repeat(4));
            default -> b.setCharAt(Math.min(at, b.length() - 1), c);
        }
        b.setLength(Math.min(b.length(), 120));
    }

    private void anyCall() throws Exception {
        int kind = random.nextInt(100);
        if (kind < 25) {
            call("step", random.nextInt(3) == 0 ? 1 + random.nextInt(20) : 1 + random.nextInt(3));
        } else if (kind < 27) {
            typeAnew(text());
        } else if (kind < 31) {
            // Agents claim what they can, so a claim is seldom handed over unless b drops its own.
            int a = agent();
            int b = agent();
            call("drop", b);
            call("handOver", a, b);
        } else {
            String name = names.get(random.nextInt(names.size()));
            if (!name.equals("load") && !name.equals("clearText") && !name.equals("append")
                    && !(name.equals("restore") && random.nextBoolean())) {
                call(name, arguments(name));
            }
        }
    }

    private void typeAnew(String text) throws Exception {
        if (made + 3 + text.length() + DEAREST_LOOK <= LAST_CALL) {
            call("clearText");
            type(text);
            call("errorPosition");
            call("load");
        }
    }

    private Object[] arguments(String name) {
        return switch (name) {
            case "about", "conflicts" -> new Object[] {near(0, name.equals("about") ? 7 : 2)};
            case "agent" -> new Object[] {agent(), near(0, 7)};
            case "task" -> new Object[] {task(), near(0, 6)};
            case "note" -> new Object[] {agent(), task(), near(0, 3)};
            case "step", "worstLoss" -> new Object[] {near(1, 99)};
            case "setRange" -> new Object[] {agent(), near(0, 22)};
            case "put" -> new Object[] {agent(), near(0, 11), near(0, 11)};
            case "toggle", "drop" -> new Object[] {agent()};
            case "handOver", "hops" -> new Object[] {agent(), agent()};
            case "setLifetime" -> new Object[] {near(1, 20)};
            case "finishedAfter" -> new Object[] {near(0, 8)};
            case "knownAfter" -> new Object[] {task()};
            case "wastedIf" -> new Object[] {near(0, 22), near(1, 99)};
            case "bestShare" -> new Object[] {random.nextInt(3) == 0 ? -1 : agent()};
            case "runScript" -> script();
            case "simulate" -> new Object[] {random.nextLong(), near(1, 60)};
            case "save", "restore" -> new Object[] {near(0, 1)};
            default -> new Object[0];
        };
    }

    /** A number from low to high, and now and then one that is out of this range. */
    private int near(int low, int high) {
        int kind = random.nextInt(60);
        if (kind == 0) {
            return low - 1;
        }
        if (kind == 1) {
            return high + 1;
        }
        if (kind == 2) {
            return random.nextInt();
        }
        return kind == 3 ? low : kind == 4 ? high : low + random.nextInt(high - low + 1);
    }

    private int agent() {
        return near(0, Math.max(0, plain.about(0) - 1));
    }

    private int task() {
        return near(0, Math.max(0, plain.about(1) - 1));
    }

    private Object[] script() {
        int n = near(1, 3);
        int count = Math.max(1, Math.min(3, n));
        StringBuilder b = new StringBuilder();
        for (int i = 0; i < count; i++) {
            b.append(command());
        }
        long script = Long.parseLong(b.toString());
        if (random.nextInt(30) == 0) {
            script = random.nextBoolean() ? -script : script * 10 + 1;
        }
        return new Object[] {n, script};
    }

    private String command() {
        int a = random.nextInt(Math.max(1, plain.about(0)));
        int b = random.nextInt(Math.max(1, plain.about(0)));
        String group = switch (random.nextInt(11)) {
            case 0 -> String.format("100%02d", random.nextInt(12));
            case 1 -> String.format("2%d0%02d", a, random.nextInt(25));
            case 2 -> String.format("3%d000", a);
            case 3 -> String.format("4%d%d00", a, b);
            case 4 -> String.format("5%d000", a);
            case 5 -> "6000" + (random.nextBoolean() ? plain.about(4) : random.nextInt(10));
            case 6 -> String.format("7%d00%d", a, Math.max(0, plain.about(0) > a ? plain.agent(a, 4) : 0));
            case 7 -> "8000" + (random.nextBoolean() ? plain.conflicts(0) : random.nextInt(3));
            case 8 -> String.format("900%02d", random.nextInt(10));
            case 9 -> String.format("100%02d", random.nextInt(100));
            default -> String.format("%05d", random.nextInt(100000));
        };
        if (random.nextInt(15) == 0) {
            StringBuilder spoilt = new StringBuilder(group);
            spoilt.setCharAt(random.nextInt(5), (char) ('0' + random.nextInt(10)));
            return spoilt.toString();
        }
        return group;
    }

    private void call(String name, Object... args) throws Exception {
        made++;
        String got = answer(face.get(name), real, args);
        String want = answer(model.get(name), plain, args);
        told.append(' ').append(name).append(java.util.Arrays.toString(args)).append('=').append(want);
        if (!want.startsWith("throws")) {
            answered.merge(name, 1, Integer::sum);
        }
        if (!got.equals(want)) {
            same = false;
            check.complain("answered " + got + " at the end of:" + told);
        }
    }

    private static String answer(Method m, Object on, Object[] args) throws Exception {
        try {
            return String.valueOf(m.invoke(on, args));
        } catch (InvocationTargetException e) {
            return "throws." + e.getCause().getClass().getSimpleName();
        }
    }

    private void wholeState() throws Exception {
        for (int what = 0; what <= 7; what++) {
            call("about", what);
        }
        for (int a = 0; a < plain.about(0); a++) {
            for (int what = 0; what <= 7; what++) {
                call("agent", a, what);
            }
            for (int t = 0; t < plain.about(1); t++) {
                for (int what = 0; what <= 3; what++) {
                    call("note", a, t, what);
                }
            }
        }
        for (int t = 0; t < plain.about(1); t++) {
            for (int what = 0; what <= 6; what++) {
                call("task", t, what);
            }
        }
    }
}
