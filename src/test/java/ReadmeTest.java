import java.io.IOException;
import java.lang.reflect.InvocationTargetException;
import java.lang.reflect.Method;
import java.lang.reflect.Modifier;
import java.nio.file.Files;
import java.nio.file.Path;
import java.util.regex.Matcher;
import java.util.regex.Pattern;

/** Makes the calls of README.md's example, and looks if it names all calls of the face. */
public final class ReadmeTest {
    private static final Check CHECK = new Check();
    private static final Path README = Path.of("README.md");
    private static final Pattern EXAMPLE = Pattern.compile("```java\\n(.*?)```", Pattern.DOTALL);
    private static final Pattern TYPED = Pattern.compile("\"([^\"]*)\"\\.toCharArray\\(\\)");
    private static final Pattern CALL =
            Pattern.compile("x\\.(\\w+)\\(([^)]*)\\);\\s+// (-?\\d+|throws \\w+)(?::.*)?");

    public static void main(String[] args) throws Exception {
        String readme = Files.readString(README);
        Matcher example = EXAMPLE.matcher(readme);
        CHECK.isTrue("README.md has an example", example.find());
        makeCalls(example.group(1));
        namesAllCalls(readme);
        CHECK.end();
    }

    private static void makeCalls(String example) throws Exception {
        ClaimedTasks x = new ClaimedTasks();
        Matcher typed = TYPED.matcher(example);
        CHECK.isTrue("the example types a text", typed.find());
        Scene.type(x, typed.group(1));
        int made = 0;
        for (String line : example.split("\\n")) {
            Matcher call = CALL.matcher(line);
            if (call.matches()) {
                CHECK.isTrue(line, answer(x, call.group(1), call.group(2)).equals(call.group(3)));
                made++;
            } else {
                CHECK.isTrue("a line of the example is no call with its answer: " + line,
                        !line.startsWith("x."));
            }
        }
        CHECK.isTrue("the example has calls", made > 0);
    }

    private static String answer(ClaimedTasks x, String name, String arguments) throws Exception {
        String[] told = arguments.isEmpty() ? new String[0] : arguments.split(", ");
        Method m = called(name);
        Object[] given = new Object[told.length];
        for (int i = 0; i < told.length; i++) {
            long number = Long.parseLong(told[i].replace("L", ""));
            given[i] = m.getParameterTypes()[i] == int.class ? (Object) Math.toIntExact(number) : (Object) number;
        }
        try {
            return m.invoke(x, given).toString();
        } catch (InvocationTargetException e) {
            return "throws " + e.getCause().getClass().getSimpleName();
        }
    }

    private static Method called(String name) throws IOException {
        for (Method m : ClaimedTasks.class.getDeclaredMethods()) {
            if (m.getName().equals(name) && Modifier.isPublic(m.getModifiers())) {
                return m;
            }
        }
        throw new IOException("README.md calls " + name + ", which is not there");
    }

    private static void namesAllCalls(String readme) {
        for (Method m : ClaimedTasks.class.getDeclaredMethods()) {
            if (Modifier.isPublic(m.getModifiers())) {
                CHECK.isTrue("README.md does not name " + m.getName(), readme.contains("`" + m.getName() + "`"));
            }
        }
    }
}
