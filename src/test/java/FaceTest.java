import java.lang.reflect.Constructor;
import java.lang.reflect.Field;
import java.lang.reflect.Member;
import java.lang.reflect.Method;
import java.lang.reflect.Modifier;
import java.nio.file.Files;
import java.nio.file.Path;
import java.util.Arrays;
import java.util.List;
import java.util.Set;
import java.util.TreeSet;
import java.util.regex.Matcher;
import java.util.regex.Pattern;

/** The public face of the document, and rules of LANGUAGE.md that can be seen from outside. */
public final class FaceTest {
    private static final Check CHECK = new Check();
    private static final String[] METHODS = {
        "append(int) IllegalArgumentException IllegalStateException",
        "clearText()",
        "errorPosition()",
        "load() IllegalStateException",
        "about(int) IllegalArgumentException",
        "agent(int,int) IndexOutOfBoundsException IllegalArgumentException",
        "task(int,int) IndexOutOfBoundsException IllegalArgumentException",
        "note(int,int,int) IndexOutOfBoundsException IllegalArgumentException",
        "step(int) IllegalArgumentException",
        "setRange(int,int) IndexOutOfBoundsException IllegalArgumentException",
        "put(int,int,int) IndexOutOfBoundsException IllegalArgumentException",
        "toggle(int) IndexOutOfBoundsException",
        "handOver(int,int) IndexOutOfBoundsException IllegalArgumentException IllegalStateException",
        "drop(int) IndexOutOfBoundsException",
        "setLifetime(int) IllegalArgumentException",
        "undo() IllegalStateException",
        "hops(int,int) IndexOutOfBoundsException",
        "groups()",
        "rangeNeeded()",
        "conflicts(int) IllegalArgumentException",
        "finishedAfter(int) IllegalArgumentException",
        "knownAfter(int) IndexOutOfBoundsException",
        "wastedIf(int,int) IllegalArgumentException",
        "worstLoss(int) IllegalArgumentException",
        "bestShare(int) IndexOutOfBoundsException",
        "runScript(int,long) IllegalArgumentException",
        "simulate(long,int) IllegalArgumentException",
        "save(int) IndexOutOfBoundsException",
        "restore(int) IndexOutOfBoundsException IllegalStateException",
    };

    public static void main(String[] args) throws Exception {
        theClass();
        theMethods();
        namesInside();
        theSource();
        CHECK.end();
    }

    private static void theClass() {
        int modifiers = ClaimedTasks.class.getModifiers();
        CHECK.isTrue("the class is public and final", Modifier.isPublic(modifiers) && Modifier.isFinal(modifiers));
        Constructor<?>[] made = ClaimedTasks.class.getDeclaredConstructors();
        CHECK.isTrue("one public constructor without parameters",
                made.length == 1 && Modifier.isPublic(made[0].getModifiers()) && made[0].getParameterCount() == 0);
        for (Field f : ClaimedTasks.class.getDeclaredFields()) {
            boolean constant = f.getName().equals("NONE");
            CHECK.isTrue("field " + f.getName(), isOpen(f) == constant);
        }
        for (Class<?> c : ClaimedTasks.class.getDeclaredClasses()) {
            CHECK.isTrue("class " + c.getSimpleName() + " is static and not public",
                    Modifier.isStatic(c.getModifiers()) && !Modifier.isPublic(c.getModifiers())
                            && !Modifier.isProtected(c.getModifiers()));
            CHECK.isTrue("class " + c.getSimpleName() + " has too many fields", countOfFields(c) <= 20);
        }
        CHECK.isTrue("too many classes", ClaimedTasks.class.getDeclaredClasses().length <= 11);
    }

    private static boolean isOpen(Member m) {
        return !Modifier.isPrivate(m.getModifiers());
    }

    private static long countOfFields(Class<?> c) {
        return Arrays.stream(c.getDeclaredFields()).filter(f -> !Modifier.isStatic(f.getModifiers())).count();
    }

    private static void theMethods() {
        Set<String> found = new TreeSet<>();
        for (Method m : ClaimedTasks.class.getDeclaredMethods()) {
            if (isOpen(m)) {
                CHECK.isTrue(m.getName() + " is a public int of the object",
                        Modifier.isPublic(m.getModifiers()) && !Modifier.isStatic(m.getModifiers())
                                && m.getReturnType() == int.class);
                found.add(told(m));
            }
        }
        Set<String> want = new TreeSet<>(List.of(METHODS));
        CHECK.isTrue("the face is " + found + ", due is " + want, found.equals(want));
    }

    private static String told(Method m) {
        StringBuilder b = new StringBuilder(m.getName()).append('(');
        for (Class<?> type : m.getParameterTypes()) {
            b.append(b.charAt(b.length() - 1) == '(' ? "" : ",").append(type.getSimpleName());
        }
        b.append(')');
        for (Class<?> type : m.getExceptionTypes()) {
            b.append(' ').append(type.getSimpleName());
        }
        return b.toString();
    }

    /** Rules 1, 6 and 11: names, static fields and parameters of what is inside. */
    private static void namesInside() {
        Set<String> taken = new TreeSet<>();
        for (String told : METHODS) {
            taken.add(told.substring(0, told.indexOf('(')));
        }
        for (Class<?> c : ClaimedTasks.class.getDeclaredClasses()) {
            for (Method m : c.getDeclaredMethods()) {
                CHECK.isTrue(c.getSimpleName() + "." + m.getName() + " bears a name of the face",
                        !taken.contains(m.getName()));
                CHECK.isTrue(m.getName() + " has too many parameters", m.getParameterCount() <= 7);
            }
            for (Field f : c.getDeclaredFields()) {
                CHECK.isTrue(f.getName() + " is static and not final",
                        !Modifier.isStatic(f.getModifiers()) || Modifier.isFinal(f.getModifiers()));
            }
        }
        for (Method m : ClaimedTasks.class.getDeclaredMethods()) {
            CHECK.isTrue("private " + m.getName() + " bears a name of the face",
                    isOpen(m) || !taken.contains(m.getName()));
        }
    }

    private static void theSource() throws Exception {
        String source = Files.readString(Path.of("src/main/java/ClaimedTasks.java"));
        for (String word : new String[] {"import ", "package ", "->", "::", "Exact", "catch", "finally", "try {",
            "synchronized", "assert ", "System.out", "toString", "hashCode", "@"}) {
            CHECK.isTrue("the source has " + word, !source.contains(word));
        }
        Matcher thrown = Pattern.compile("throw\\b[^;]*;").matcher(source);
        while (thrown.find()) {
            CHECK.isTrue(thrown.group(), thrown.group().matches(
                    "throw new (IllegalState|IllegalArgument|IndexOutOfBounds)Exception\\(\"[^\"]*\"\\);"));
        }
        CHECK.isTrue("signs beyond 127", source.chars().allMatch(c -> c < 128));
    }
}
