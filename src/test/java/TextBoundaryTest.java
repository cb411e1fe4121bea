import java.util.List;
import java.util.function.Supplier;
import java.util.function.ToIntFunction;

/** Boundary cases of the document's section TEXT, and of promises 1 to 5. */
public final class TextBoundaryTest extends Boundary {
    // Signs beside the digits and the letters, and the ends of what can be appended.
    private static final String SIGNS = "/0123456789:atCAT cx\u0000\u00ff";

    public static void main(String[] args) {
        runAll(TextBoundaryTest.class);
    }

    private static void wrongAt(String text, int position) {
        due("errorPosition of '" + text + "'", Scene.typed(text).errorPosition(), position);
        refused("load of '" + text + "'", () -> Scene.typed(text), ClaimedTasks::load, STATE);
    }

    private static void right(String text, int agents) {
        due("errorPosition of '" + text + "'", Scene.typed(text).errorPosition(), NONE);
        due("load of '" + text + "'", Scene.typed(text).load(), agents);
    }

    /** Tries all pairs of signs as the two digits of a number from low to high, behind a start. */
    private static void number(String start, int low, int high, String end) {
        for (char tens : SIGNS.toCharArray()) {
            for (char ones : SIGNS.toCharArray()) {
                String text = start + tens + ones + end;
                int want = NONE;
                if (!begins(tens, low, high)) {
                    want = start.length();
                } else if (ones < '0' || ones > '9' || !within(tens, ones, low, high)) {
                    want = start.length() + 1;
                }
                due("errorPosition of '" + text + "'", Scene.typed(text).errorPosition(), want);
            }
        }
    }

    private static boolean begins(char tens, int low, int high) {
        for (int v = low; v <= high; v++) {
            if (tens == '0' + v / 10) {
                return true;
            }
        }
        return false;
    }

    private static boolean within(char tens, char ones, int low, int high) {
        int v = (tens - '0') * 10 + (ones - '0');
        return v >= low && v <= high;
    }

    // ---- TEXT

    @Sentence(promise = 0, value = "The object has a text buffer of at most 120 characters.")
    static void upTo120Characters() {
        ClaimedTasks x = new ClaimedTasks();
        for (int n = 1; n <= 120; n++) {
            due("append", x.append('C'), n);
        }
        due("length", x.clearText(), 120);
        refused("the 121st", () -> Scene.typed("C".repeat(120)), y -> y.append('C'), STATE);
        // No text is longer than 93, so a full buffer is wrong there at the latest.
        String longest = "C05" + SIX_AGENTS + EIGHT_TASKS;
        right(longest, 6);
        wrongAt(longest + "a".repeat(27), 93);
        wrongAt("C05" + EIGHT_TASKS + SIX_AGENTS + "x".repeat(27), 93);
    }

    @Sentence(promise = 0, value = "A text is the letter C, two digits for the lifetime (01 to 20),")
    static void theLetterC() {
        for (int c = 0; c <= 255; c++) {
            String text = (char) c + "05";
            due("first sign " + c, Scene.typed(text).errorPosition(), c == 'C' ? NONE : 0);
        }
    }

    @Sentence(promise = 0, value = "two digits for the lifetime (01 to 20),")
    static void lifetimeFrom01To20() {
        number("C", 1, 20, "");
        number("C", 1, 20, "a000000t00001");
    }

    @Sentence(promise = 0, value = "and any number of items:")
    static void fromNoItemToFourteen() {
        right("C05", 0);
        for (int n = 0; n <= 6; n++) {
            right("C05" + "a000000".repeat(n), n);
            right("C05" + "a000000".repeat(n) + "t00001".repeat(8), n);
        }
        for (int n = 0; n <= 8; n++) {
            right("C05" + "t00001".repeat(n), 0);
            right("C05" + "t00001".repeat(n) + "a000000".repeat(6), 6);
        }
        right("C05t00001a000000t00001a000000", 2);
    }

    @Sentence(promise = 0, value = "the letter a,")
    static void theLetterOfAnItem() {
        for (int c = 0; c <= 255; c++) {
            char letter = (char) c;
            due("agent letter " + c, Scene.typed("C05" + letter + "000000").errorPosition(),
                    c == 'a' ? NONE : c == 't' ? 8 : 3);
            due("task letter " + c, Scene.typed("C05" + letter + "00001").errorPosition(),
                    c == 't' ? NONE : c == 'a' ? 9 : 3);
            due("second letter " + c, Scene.typed("C05t00001" + letter + "000000").errorPosition(),
                    c == 'a' ? NONE : c == 't' ? 14 : 9);
        }
    }

    @Sentence(promise = 0, value = "two digits each for the column (00 to 11),")
    static void columnOfAnAgent() {
        number("C05a", 0, 11, "0000");
    }

    @Sentence(promise = 0, value = "the row (00 to 11)")
    static void rowOfAnAgent() {
        number("C05a11", 0, 11, "22");
    }

    @Sentence(promise = 0, value = "and the range (00 to 22) for an agent, which is on;")
    static void rangeOfAnAgent() {
        number("C05a1111", 0, 22, "");
        number("C05a0000", 0, 22, "t00001");
        ClaimedTasks x = Scene.loaded("C05a000000a000022");
        due("both are on", x.about(7), 3);
    }

    @Sentence(promise = 0, value = "or the letter t, two digits each for the column and the row,")
    static void placeOfATask() {
        number("C05t", 0, 11, "001");
        number("C05t11", 0, 11, "9");
    }

    @Sentence(promise = 0, value = "and a digit for the work (1 to 9) for a task.")
    static void workOfATask() {
        for (int c = 0; c <= 255; c++) {
            due("work sign " + c, Scene.typed("C05t0000" + (char) c).errorPosition(),
                    c >= '1' && c <= '9' ? NONE : 8);
        }
        wrongAt("C05t000000", 8);
        wrongAt("C05t000010", 9);
    }

    @Sentence(promise = 0, value = "There are no spaces.")
    static void noSpaceAnywhere() {
        String text = "C05a000000t00001";
        for (int at = 0; at <= text.length(); at++) {
            wrongAt(text.substring(0, at) + " " + text.substring(at), at);
        }
    }

    @Sentence(promise = 0, value = "The text is read from left to right.")
    static void theFirstOfSeveralErrors() {
        wrongAt("x05a990000t00000", 0);
        wrongAt("C99a990000t00000", 1);
        wrongAt("C05a990000t00000", 4);
        wrongAt("C05a000000t00000", 15);
        ClaimedTasks x = Scene.loaded("C07t09111a030422t11003a100009");
        due("the first agent", x.agent(0, 0), 3);
        due("the second agent", x.agent(1, 0), 10);
        due("the first task", x.task(0, 0), 9);
        due("the second task", x.task(1, 0), 11);
    }

    @Sentence(promise = 0, value = "The error position is the index of the first character that these rules do not"
            + " allow at its place")
    static void aWrongSignAtEachPlace() {
        String text = "C05a000000t00001";
        for (int at = 0; at < text.length(); at++) {
            wrongAt(text.substring(0, at) + "x" + text.substring(at + 1), at);
            wrongAt(text.substring(0, at) + "x", at);
        }
        wrongAt(text + "x", text.length());
    }

    @Sentence(promise = 0, value = "(this includes the letter of a seventh agent or a ninth task;")
    static void theLetterOfOneTooMany() {
        String agents = "a000000".repeat(6);
        String tasks = "t00001".repeat(8);
        wrongAt("C05" + agents + "a", 45);
        wrongAt("C05" + agents + "a000000", 45);
        wrongAt("C05" + agents + "a99", 45);
        wrongAt("C05" + agents + "t00001a000000", 51);
        wrongAt("C05" + tasks + "t", 51);
        wrongAt("C05" + tasks + "t00001", 51);
        wrongAt("C05" + tasks + "a000000t00001", 58);
        wrongAt("C05" + agents + tasks + "a000000", 93);
        wrongAt("C05" + agents + tasks + "t00001", 93);
        wrongAt("C05" + tasks + agents + "t00001", 93);
        right("C05" + agents + "t00001", 6);
        right("C05" + tasks + "a000000", 1);
    }

    @Sentence(promise = 0, value = "the first of two digits is not allowed if no number in the range begins with it);")
    static void theFirstOfTwoDigits() {
        wrongAt("C3", 1);
        wrongAt("C30", 1);
        wrongAt("C99", 1);
        wrongAt("C05a2", 4);
        wrongAt("C05a20", 4);
        wrongAt("C05a002", 6);
        wrongAt("C05a00003", 8);
        wrongAt("C05a000030", 8);
        wrongAt("C05t20001", 4);
        wrongAt("C05t00201", 6);
        // A first digit with which some numbers begin is allowed; then the second one is wrong.
        wrongAt("C21", 2);
        wrongAt("C00", 2);
        wrongAt("C05a12", 5);
        wrongAt("C05a0012", 7);
        wrongAt("C05a000023", 9);
        wrongAt("C05t12001", 5);
        wrongAt("C05t00121", 7);
    }

    @Sentence(promise = 0, value = "if the text ends too soon, it is the length of the text.")
    static void eachTextThatEndsTooSoon() {
        String text = "C05a111122t11119a000000";
        for (int length = 0; length <= text.length(); length++) {
            String start = text.substring(0, length);
            if (length == 3 || length == 10 || length == 16 || length == 23) {
                right(start, (int) start.chars().filter(c -> c == 'a').count());
            } else {
                wrongAt(start, length);
            }
        }
    }

    // ---- promise 1

    @Sentence(promise = 1, value = "Creates a grid without agents and tasks.")
    static void aNewObjectHasNothing() {
        ClaimedTasks x = new ClaimedTasks();
        int[] want = {0, 0, 0, 5, 0, 0, 0, 0};
        for (int what = 0; what <= 7; what++) {
            due("about " + what, x.about(what), want[what]);
        }
        due("text", x.clearText(), 0);
        nobody("agent", y -> y.agent(0, 0), INDEX);
        nobody("task", y -> y.task(0, 0), INDEX);
        nobody("note", y -> y.note(0, 0, 0), INDEX);
        nobody("setRange", y -> y.setRange(0, 0), INDEX);
        nobody("put", y -> y.put(0, 0, 0), INDEX);
        nobody("toggle", y -> y.toggle(0), INDEX);
        nobody("handOver", y -> y.handOver(0, 1), INDEX);
        nobody("drop", y -> y.drop(0), INDEX);
        nobody("hops", y -> y.hops(0, 0), INDEX);
        nobody("knownAfter", y -> y.knownAfter(0), INDEX);
        nobody("bestShare", y -> y.bestShare(0), INDEX);
        nobody("undo", ClaimedTasks::undo, STATE);
        nobody("load", ClaimedTasks::load, STATE);
        nobody("restore 0", y -> y.restore(0), STATE);
        nobody("restore 1", y -> y.restore(1), STATE);
    }

    private static void nobody(String call, ToIntFunction<ClaimedTasks> made, Class<? extends RuntimeException> want) {
        refused(call + " of a new object", ClaimedTasks::new, made, want);
    }

    @Sentence(promise = 1, value = "Creates a grid without agents and tasks.")
    static void objectsShareNothing() {
        List<Supplier<ClaimedTasks>> makers = List.of(ClaimedTasks::new, Boundary::busy, Boundary::full);
        for (Supplier<ClaimedTasks> one : makers) {
            for (Supplier<ClaimedTasks> other : makers) {
                same("an object beside another one", Whole.of(() -> besideAnother(one.get(), other)), Whole.of(one));
            }
        }
    }

    private static ClaimedTasks besideAnother(ClaimedTasks one, Supplier<ClaimedTasks> other) {
        ClaimedTasks y = other.get();
        y.step(1);
        y.save(0);
        y.save(1);
        y.clearText();
        return one;
    }

    // ---- promise 2

    @Sentence(promise = 2, value = "`c`: character code, 0 to 255")
    static void allCodesFrom0To255() {
        for (int c = 0; c <= 255; c++) {
            ClaimedTasks x = new ClaimedTasks();
            due("append(" + c + ")", x.append(c), 1);
            due("errorPosition", x.errorPosition(), c == 'C' ? 1 : 0);
            due("clearText", x.clearText(), 1);
        }
    }

    @Sentence(promise = 2, value = "Returns the new length of the text.")
    static void lengthsFrom1To120() {
        ClaimedTasks x = new ClaimedTasks();
        for (int n = 1; n <= 120; n++) {
            due("append", x.append(n), n);
        }
        x.clearText();
        due("append after clearText", x.append('C'), 1);
    }

    @Sentence(promise = 2, value = "Throws `IllegalArgumentException` if c is out of range")
    static void wrongCodes() {
        for (int bad : outside(0, 255)) {
            refused("append(" + bad + ")", Boundary::busy, x -> x.append(bad), ARGUMENT);
            refused("append(" + bad + ") to nothing", ClaimedTasks::new, x -> x.append(bad), ARGUMENT);
        }
        // Codes of which the lower bits are those of the letter C.
        for (int bad : new int[] {'C' + 256, 'C' - 256, 'C' + 65536, 'C' | Integer.MIN_VALUE}) {
            refused("append(" + bad + ")", ClaimedTasks::new, x -> x.append(bad), ARGUMENT);
        }
        // With a full text, two exceptions apply; this one is named first.
        for (int bad : outside(0, 255)) {
            refused("append(" + bad + ") to a full text", Boundary::full, x -> x.append(bad), ARGUMENT);
        }
    }

    @Sentence(promise = 2, value = "Throws `IllegalStateException` if the text already has 120 characters")
    static void aFullText() {
        due("the 120th", Scene.typed("C05" + "x".repeat(116)).append('x'), 120);
        for (int c : new int[] {0, 'C', 255}) {
            refused("the 121st", Boundary::full, x -> x.append(c), STATE);
            refused("the 121st of a new object", () -> Scene.typed("x".repeat(120)), x -> x.append(c), STATE);
        }
        ClaimedTasks x = Boundary.full();
        x.clearText();
        due("after clearText", x.append('C'), 1);
    }

    // ---- promise 3

    @Sentence(promise = 3, value = "Empties the text buffer.")
    static void nothingIsLeftOfTheText() {
        ClaimedTasks x = Scene.typed("C05a000000");
        x.clearText();
        due("errorPosition", x.errorPosition(), 0);
        x.append('C');
        due("errorPosition of C", x.errorPosition(), 1);
        Scene.type(x, "07");
        due("errorPosition of C07", x.errorPosition(), NONE);
        due("load", x.load(), 0);
        // The state, what is remembered and the slots stay.
        ClaimedTasks y = Boundary.busy();
        int[] before = Scene.allOf(y);
        y.clearText();
        same("the state", java.util.Arrays.toString(Scene.allOf(y)), java.util.Arrays.toString(before));
        due("undo", y.undo(), 4);
        due("restore", y.restore(0), 2);
    }

    @Sentence(promise = 3, value = "Returns the previous length of the text.")
    static void lengthsFrom0To120() {
        ClaimedTasks x = new ClaimedTasks();
        due("nothing", x.clearText(), 0);
        due("nothing again", x.clearText(), 0);
        x.append('C');
        due("one", x.clearText(), 1);
        Scene.type(x, "x".repeat(120));
        due("120", x.clearText(), 120);
        due("nothing after 120", x.clearText(), 0);
    }

    // ---- promise 4

    @Sentence(promise = 4, value = "Returns the error position of the text; NONE if it is a text as described above.")
    static void errorPositionOrNone() {
        asked("of nothing", ClaimedTasks::new, ClaimedTasks::errorPosition, 0);
        asked("of the shortest text", () -> Scene.typed("C01"), ClaimedTasks::errorPosition, NONE);
        asked("of a text beside a state", Boundary::busy, ClaimedTasks::errorPosition, NONE);
        asked("of a full text", Boundary::full, ClaimedTasks::errorPosition, 93);
        asked("of one that ends too soon", () -> Scene.typed("C05a00000"), ClaimedTasks::errorPosition, 9);
    }

    // ---- promise 5

    @Sentence(promise = 5, value = "Replaces everything by what the text describes; all notes are empty, and the clock"
            + " is 0.")
    static void loadReplacesEverything() {
        for (String text : new String[] {"C01", "C20a000000", "C09t11119", "C05" + SIX_AGENTS + EIGHT_TASKS, TWO}) {
            ClaimedTasks x = Scene.loaded("C20" + SIX_AGENTS + EIGHT_TASKS);
            x.step(14);
            x.toggle(0);
            x.clearText();
            Scene.type(x, text);
            x.load();
            same("load of " + text, java.util.Arrays.toString(Scene.allOf(x)),
                    java.util.Arrays.toString(Scene.allOf(Scene.loaded(text))));
        }
    }

    @Sentence(promise = 5, value = "Forgets all remembered states and empties both save slots.")
    static void loadForgets() {
        refused("undo", () -> loadedAfter(Boundary.busy()), ClaimedTasks::undo, STATE);
        refused("restore 0", () -> loadedAfter(Boundary.busy()), x -> x.restore(0), STATE);
        refused("restore 1", () -> loadedAfter(Boundary.busy()), x -> x.restore(1), STATE);
        refused("undo with 14 remembered", () -> loadedAfter(Boundary.full()), ClaimedTasks::undo, STATE);
        ClaimedTasks x = loadedAfter(Boundary.full());
        for (int i = 1; i <= 14; i++) {
            x.step(1);
        }
        due("14 are remembered again", x.undo(), 13);
    }

    private static ClaimedTasks loadedAfter(ClaimedTasks x) {
        x.clearText();
        Scene.type(x, "C07a000000t00001");
        x.load();
        return x;
    }

    @Sentence(promise = 5, value = "Keeps the text.")
    static void loadKeepsTheText() {
        ClaimedTasks x = loadedAfter(new ClaimedTasks());
        due("errorPosition", x.errorPosition(), NONE);
        due("load again", x.load(), 1);
        due("append goes on", x.append('a'), 17);
        due("length", x.clearText(), 17);
    }

    @Sentence(promise = 5, value = "Returns the number of agents.")
    static void loadCountsAgents() {
        for (int n = 0; n <= 6; n++) {
            due("load of " + n, Scene.typed("C05t00001" + "a000000".repeat(n) + "t00001").load(), n);
        }
    }

    @Sentence(promise = 5, value = "Throws `IllegalStateException` if the text is not as described above")
    static void loadOfAWrongText() {
        refused("load of nothing", ClaimedTasks::new, ClaimedTasks::load, STATE);
        refused("load of a full wrong text", Boundary::full, ClaimedTasks::load, STATE);
        for (String wrong : new String[] {"", "C", "C0", "C00", "C21", "c05", "C05 ", "C05a", "C05a000023", "C05t00000",
            "C05" + "a000000".repeat(7), "C05" + "t00001".repeat(9), "C05a000000x"}) {
            refused("load of '" + wrong + "'", () -> busyWith(wrong), ClaimedTasks::load, STATE);
        }
    }

    private static ClaimedTasks busyWith(String text) {
        ClaimedTasks x = Boundary.busy();
        x.clearText();
        Scene.type(x, text);
        return x;
    }
}
