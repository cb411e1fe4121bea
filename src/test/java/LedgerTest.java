import java.io.IOException;
import java.lang.reflect.Method;
import java.nio.file.Files;
import java.nio.file.Path;
import java.util.ArrayList;
import java.util.List;
import java.util.Map;
import java.util.Set;
import java.util.TreeMap;
import java.util.TreeSet;
import java.util.regex.Matcher;
import java.util.regex.Pattern;

/**
 * Keeps the boundary tests and the document together: what a test quotes stands in the document,
 * and each clause of the document is quoted by a test or stands below as one without a boundary.
 */
public final class LedgerTest {
    private static final Check CHECK = new Check();
    private static final Path DOCUMENT = Path.of("../shared/DOC.md");
    private static final List<Class<? extends Boundary>> TESTS = List.of(GridBoundaryTest.class,
            NoteBoundaryTest.class, StepBoundaryTest.class, TextBoundaryTest.class, StateBoundaryTest.class,
            ActionBoundaryTest.class, ExceptionBoundaryTest.class, ForecastBoundaryTest.class,
            ScriptBoundaryTest.class, SlotBoundaryTest.class);
    /** Clauses that name no boundary case: headings, and what a method is for. */
    private static final List<String> WITHOUT_BOUNDARY = List.of(
            "A simulation of agents that move on a grid and share tasks by claims over short radio "
                    + "ranges: what each agent knows of each task, claims with lifetimes that are renewed, "
                    + "conflicts that are settled by distance, work, handovers, agents that fall out.",
            "It tells who hears whom, double claims, wasted work, when all is done, what a range or the "
                    + "loss of an agent would change, how knowledge spreads, and how the tasks would best be "
                    + "shared.",
            "Changes can be undone.",
            "what later calls answer is free.",
            "The constants:",
            "The constructor and the methods follow, a promise each: the signature, then what it does.",
            "Appends a character to the text buffer.",
            "Checks the text.",
            "what there is",
            "Returns a number.",
            "Returns that number.",
            "Returns a number of an agent.",
            "Returns a number of a task.",
            "Returns a number of a note.",
            "`a`: agent",
            "`b`: agent",
            "`t`: task",
            "actions",
            "Changes the range of an agent.",
            "Puts an agent at another place.",
            "`a`: agent that has a claim",
            "`b`: another agent",
            "Changes the lifetime.",
            "who hears whom;",
            "Tells how far a message has to go.",
            "claims, forecasts",
            "Tells about conflicts.",
            "Tells when a number of tasks is finished without further changes.",
            "Tells when all agents that are on know that a task is finished, without further changes.",
            "Tells how much would be wasted with other ranges.",
            "Finds the agent whose loss would be worst.",
            "Returns the task of this agent;",
            "scripts, simulations",
            "save slots");

    public static void main(String[] args) throws IOException {
        if (!Files.exists(DOCUMENT)) {
            System.out.println("there is no document beside the checkout: nothing is compared");
            return;
        }
        Map<Integer, String> sections = sections(Files.readString(DOCUMENT));
        Map<Integer, List<String>> quotes = quotes();
        CHECK.due("promises in the document", sections.size() - 1, 30);
        for (int promise : sections.keySet()) {
            List<String> quoted = quotes.getOrDefault(promise, List.of());
            for (String quote : quoted) {
                CHECK.isTrue("promise " + promise + " does not say: " + quote, plain(sections.get(promise)).contains(quote));
            }
            for (String clause : clauses(sections.get(promise))) {
                CHECK.isTrue("promise " + promise + ", no boundary test for: " + clause,
                        WITHOUT_BOUNDARY.contains(clause) || isQuoted(clause, quoted));
            }
        }
        CHECK.end();
    }

    private static boolean isQuoted(String clause, List<String> quoted) {
        return quoted.stream().anyMatch(q -> q.contains(clause) || clause.contains(q));
    }

    /** What the document says before promise 1, and of each promise. */
    private static Map<Integer, String> sections(String document) {
        Map<Integer, String> sections = new TreeMap<>();
        String[] parts = document.split("(?m)^## (?=Promise \\d|Not promised)");
        sections.put(0, parts[0].replaceAll("(?s)```.*?```", ""));
        for (String part : parts) {
            Matcher m = Pattern.compile("Promise (\\d+): [^\\n]*\\n(.*)", Pattern.DOTALL).matcher(part);
            if (m.matches()) {
                sections.put(Integer.parseInt(m.group(1)), m.group(2));
            }
        }
        return sections;
    }

    private static Map<Integer, List<String>> quotes() {
        Map<Integer, List<String>> quotes = new TreeMap<>();
        Set<String> names = new TreeSet<>();
        for (Class<? extends Boundary> tests : TESTS) {
            for (Method m : tests.getDeclaredMethods()) {
                Sentence s = m.getAnnotation(Sentence.class);
                if (s != null) {
                    quotes.computeIfAbsent(s.promise(), p -> new ArrayList<>()).add(s.value());
                    CHECK.isTrue("two tests are called " + m.getName(), names.add(tests.getName() + "." + m.getName()));
                }
            }
        }
        return quotes;
    }

    private static List<String> clauses(String section) {
        List<String> clauses = new ArrayList<>();
        for (String paragraph : section.replaceAll("(?m)^#.*$", "").split("\\n\\s*\\n|\\n(?=- |\\d\\. |\\d \\w \\w |[A-Z, ]+\\n)")) {
            for (String clause : plain(paragraph).split("(?<=[.:]\\)?) (?=[A-Z(0-9]|undo)|(?<=;) ")) {
                String bare = clause.replaceFirst("^(- |#+ |---- )", "").trim();
                if (bare.length() > 2 && !bare.matches("`(int |ClaimedTasks\\().*|`\\w+`:")) {
                    clauses.add(bare);
                }
            }
        }
        return clauses;
    }

    private static String plain(String text) {
        return text.replaceAll("\\s+", " ").trim();
    }
}
