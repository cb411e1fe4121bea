/** Promises 1 to 5: a new object and its text. */
public final class TextTest {
    private static final Check CHECK = new Check();
    private static final Scene SCENE = new Scene(CHECK);
    private static final String SIX_AGENTS = "a000000a111122a010203a090807a101005a000110";
    private static final String EIGHT_TASKS = "t00001t11119t01022t09083t10104t00015t05056t06067";

    public static void main(String[] args) {
        newObject();
        append();
        clearText();
        errorPosition();
        load();
        loadForgets();
        loadRefuses();
        CHECK.end();
    }

    private static void newObject() {
        ClaimedTasks x = new ClaimedTasks();
        CHECK.due("NONE", ClaimedTasks.NONE, -9);
        int[] want = {0, 0, 0, 5, 0, 0, 0, 0};
        for (int what = 0; what <= 7; what++) {
            CHECK.due("new: about " + what, x.about(what), want[what]);
        }
        CHECK.due("new: text", x.clearText(), 0);
        CHECK.throwsDue("new: agent", () -> x.agent(0, 0), IndexOutOfBoundsException.class);
        CHECK.throwsDue("new: task", () -> x.task(0, 0), IndexOutOfBoundsException.class);
        CHECK.throwsDue("new: note", () -> x.note(0, 0, 0), IndexOutOfBoundsException.class);
        CHECK.throwsDue("new: undo", () -> x.undo(), IllegalStateException.class);
        CHECK.throwsDue("new: restore 0", () -> x.restore(0), IllegalStateException.class);
        CHECK.throwsDue("new: restore 1", () -> x.restore(1), IllegalStateException.class);
        CHECK.due("new: groups", x.groups(), 0);
        CHECK.due("new: rangeNeeded", x.rangeNeeded(), 0);
        CHECK.due("new: step", x.step(99), 0);
        CHECK.due("new: clock then", x.about(2), 99);
        CHECK.due("new: finishedAfter 0", x.finishedAfter(0), 0);
        CHECK.due("new: finishedAfter 1", x.finishedAfter(1), -9);
        CHECK.due("new: worstLoss", x.worstLoss(1), -9);
        CHECK.due("new: wastedIf", x.wastedIf(22, 99), 0);
        CHECK.due("new: bestShare", x.bestShare(-1), 0);
        CHECK.due("new: simulate", x.simulate(7, 60), 0);
        CHECK.due("new: conflicts", x.conflicts(0) + x.conflicts(1) + x.conflicts(2), 0);
    }

    private static void append() {
        ClaimedTasks x = new ClaimedTasks();
        CHECK.due("append 0", x.append(0), 1);
        CHECK.due("append 255", x.append(255), 2);
        SCENE.refused(x, "append -1", () -> x.append(-1), IllegalArgumentException.class);
        SCENE.refused(x, "append 256", () -> x.append(256), IllegalArgumentException.class);
        SCENE.refused(x, "append smallest", () -> x.append(Integer.MIN_VALUE), IllegalArgumentException.class);
        for (int n = 3; n <= 120; n++) {
            CHECK.due("append up to " + n, x.append('a'), n);
        }
        SCENE.refused(x, "append to a full text", () -> x.append('a'), IllegalStateException.class);
        SCENE.refused(x, "append 256 to a full text", () -> x.append(256), IllegalArgumentException.class);
        CHECK.due("length after refusals", x.clearText(), 120);
        CHECK.due("append after clearText", x.append('C'), 1);
    }

    private static void clearText() {
        ClaimedTasks x = Scene.loaded("C05a000003t02012");
        CHECK.due("clearText", x.clearText(), 16);
        CHECK.due("clearText again", x.clearText(), 0);
        CHECK.due("errorPosition of nothing", x.errorPosition(), 0);
        CHECK.due("agents stay", x.about(0), 1);
        Scene.type(x, "C07");
        CHECK.due("the old text is gone", x.errorPosition(), -9);
        CHECK.due("length of the new text", x.clearText(), 3);
    }

    private static void errorPosition() {
        wrongAt("", 0);
        wrongAt("c05", 0);
        wrongAt(" C05", 0);
        wrongAt("C", 1);
        wrongAt("C/5", 1);
        wrongAt("C:5", 1);
        wrongAt("C30", 1);
        wrongAt("C0", 2);
        wrongAt("C00", 2);
        wrongAt("C0/", 2);
        wrongAt("C21", 2);
        wrongAt("C2a", 2);
        right("C01");
        right("C09");
        right("C10");
        right("C19");
        right("C20");
        wrongAt("C05 ", 3);
        wrongAt("C051", 3);
        wrongAt("C05A000000", 3);
        wrongAt("C05T00001", 3);
        wrongAt("C05" + (char) 255, 3);
        wrongAt("C05a", 4);
        wrongAt("C05a2", 4);
        wrongAt("C05at", 4);
        wrongAt("C05a12", 5);
        wrongAt("C05a11", 6);
        wrongAt("C05a112", 6);
        wrongAt("C05a1112", 7);
        wrongAt("C05a1111", 8);
        wrongAt("C05a11113", 8);
        wrongAt("C05a11112", 9);
        wrongAt("C05a111123", 9);
        right("C05a111122");
        right("C05a000000");
        right("C05a090919");
        right("C05a101020");
        wrongAt("C05a1111220", 10);
        wrongAt("C05t", 4);
        wrongAt("C05t2", 4);
        wrongAt("C05t12", 5);
        wrongAt("C05t002", 6);
        wrongAt("C05t0012", 7);
        wrongAt("C05t0000", 8);
        wrongAt("C05t00000", 8);
        wrongAt("C05t0000:", 8);
        right("C05t00001");
        right("C05t11119");
        wrongAt("C05t000011", 9);
        right("C05t00001a000000t00001");
        wrongAt("C05t00001a000000x00001", 16);
        right("C05" + SIX_AGENTS);
        wrongAt("C05" + SIX_AGENTS + "a", 45);
        wrongAt("C05" + SIX_AGENTS + "a000000", 45);
        right("C05" + EIGHT_TASKS);
        wrongAt("C05" + EIGHT_TASKS + "t00001", 51);
        right("C05" + SIX_AGENTS + EIGHT_TASKS);
        wrongAt("C05" + SIX_AGENTS + EIGHT_TASKS + "a", 93);
        wrongAt("C05" + EIGHT_TASKS + SIX_AGENTS + "t", 93);
        wrongAt("C05" + SIX_AGENTS + EIGHT_TASKS + "x".repeat(27), 93);
    }

    private static void wrongAt(String text, int position) {
        ClaimedTasks x = Scene.typed(text);
        SCENE.asked(x, "errorPosition of '" + text + "'", () -> x.errorPosition(), position);
        SCENE.refused(x, "load of '" + text + "'", () -> x.load(), IllegalStateException.class);
        CHECK.due("length of '" + text + "'", x.clearText(), text.length());
    }

    private static void right(String text) {
        ClaimedTasks x = Scene.typed(text);
        SCENE.asked(x, "errorPosition of '" + text + "'", () -> x.errorPosition(), -9);
        CHECK.due("load of '" + text + "'", x.load(), text.chars().filter(c -> c == 'a').count());
        CHECK.due("tasks of '" + text + "'", x.about(1), text.chars().filter(c -> c == 't').count());
        CHECK.due("lifetime of '" + text + "'", x.about(3), Integer.parseInt(text.substring(1, 3)));
        CHECK.due("length of '" + text + "'", x.clearText(), text.length());
    }

    private static void load() {
        ClaimedTasks x = Scene.typed("C17t09111a030422t11003a100009");
        CHECK.due("load", x.load(), 2);
        int[] about = {2, 2, 0, 17, 0, 0, 0, 3};
        for (int what = 0; what <= 7; what++) {
            CHECK.due("loaded: about " + what, x.about(what), about[what]);
        }
        int[][] agents = {{3, 4, 22, 1, -9, 0, 0, 0}, {10, 0, 9, 1, -9, 0, 0, 0}};
        int[][] tasks = {{9, 11, 1, 0, 0, 0, 0}, {11, 0, 3, 0, 0, 0, 0}};
        for (int i = 0; i < 2; i++) {
            for (int what = 0; what <= 7; what++) {
                CHECK.due("loaded: agent " + i + " " + what, x.agent(i, what), agents[i][what]);
            }
            for (int what = 0; what <= 6; what++) {
                CHECK.due("loaded: task " + i + " " + what, x.task(i, what), tasks[i][what]);
            }
        }
        for (int a = 0; a < 2; a++) {
            for (int t = 0; t < 2; t++) {
                CHECK.due("loaded: note", x.note(a, t, 0), 0);
                CHECK.due("loaded: owner", x.note(a, t, 1), -9);
            }
        }
        CHECK.due("load again", x.load(), 2);
        CHECK.due("the text is kept", x.clearText(), 29);
    }

    private static void loadForgets() {
        ClaimedTasks x = Scene.loaded("C05a000003a000003t00001t05055");
        x.toggle(1);
        x.step(4);
        x.save(0);
        x.save(1);
        // Forecasts leave their own traces inside the object; none may reach what is loaded.
        x.wastedIf(0, 99);
        x.simulate(3, 60);
        CHECK.due("load over a state", x.load(), 2);
        int[] want = Scene.allOf(Scene.loaded("C05a000003a000003t00001t05055"));
        CHECK.isTrue("load makes all new", java.util.Arrays.equals(want, Scene.allOf(x)));
        CHECK.throwsDue("undo after load", () -> x.undo(), IllegalStateException.class);
        CHECK.throwsDue("restore 0 after load", () -> x.restore(0), IllegalStateException.class);
        CHECK.throwsDue("restore 1 after load", () -> x.restore(1), IllegalStateException.class);
        x.step(1);
        CHECK.due("undo of the first action", x.undo(), 0);
        x.clearText();
        Scene.type(x, "C09");
        CHECK.due("load of nobody", x.load(), 0);
        CHECK.throwsDue("agents are gone", () -> x.agent(0, 0), IndexOutOfBoundsException.class);
        CHECK.throwsDue("tasks are gone", () -> x.task(0, 0), IndexOutOfBoundsException.class);
        CHECK.due("nobody is on", x.about(7), 0);
    }

    private static void loadRefuses() {
        ClaimedTasks x = Scene.loaded("C05a000003t00001t05055");
        x.step(2);
        x.save(1);
        x.toggle(0);
        x.append('a');
        SCENE.refused(x, "load of a wrong text", () -> x.load(), IllegalStateException.class);
        CHECK.due("actions stay remembered", x.undo(), 1);
        x.step(1);
        CHECK.due("the slot stays full", x.restore(1), 2);
        CHECK.due("the text stays", x.clearText(), 23);
    }
}
