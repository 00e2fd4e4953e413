import java.lang.reflect.Field;
import java.lang.reflect.Method;
import java.lang.reflect.Modifier;
import java.util.Arrays;
import java.util.Map;
import java.util.NoSuchElementException;
import java.util.Set;
import java.util.TreeSet;

/** The class shows the document's face and nothing else (rule 1 of LANGUAGE.md). */
public final class FaceTest {
    private static final Map<Class<?>, String> SHORT_NAMES = Map.of(
            IllegalArgumentException.class, "Argument", IllegalStateException.class, "State",
            UnsupportedOperationException.class, "Unsupported", NoSuchElementException.class, "NoSuch");
    // Each call with how many ints it takes and what the document lets it throw.
    private static final Set<String> FACE = new TreeSet<>(Arrays.asList(
            "spawn 2 Argument State", "table 4 Argument Unsupported State", "frame 4 Argument Unsupported State",
            "protect 3 Argument Unsupported NoSuch", "copy 2 Argument Unsupported",
            "release 2 Argument Unsupported NoSuch State", "start 1 Argument State", "give 1 Argument State",
            "kill 1 Argument Unsupported State", "reap 1 Argument State", "open 3 Argument Unsupported State",
            "share 3 Argument Unsupported NoSuch State", "close 2 Argument Unsupported NoSuch",
            "put 2 Argument NoSuch Unsupported State", "take 2 Argument NoSuch Unsupported State",
            "read 1 Argument NoSuch Unsupported", "write 2 Argument NoSuch Unsupported",
            "expect 2 Argument State NoSuch Unsupported", "send 2 Argument State NoSuch", "process 2 Argument",
            "page 2 Argument", "count 1 Argument"));

    private FaceTest() {
    }

    public static void main(String[] args) {
        Class<?> kernel = FiniteKernel.class;
        check(Modifier.isPublic(kernel.getModifiers()) && Modifier.isFinal(kernel.getModifiers()),
                "the class is public and final");
        check(kernel.getConstructors().length == 1 && kernel.getDeclaredConstructors().length == 1
                && kernel.getConstructors()[0].getParameterCount() == 0, "there is one public constructor");
        checkMethods(kernel);
        for (Field field : kernel.getDeclaredFields()) {
            check(Modifier.isPrivate(field.getModifiers()), "the field " + field.getName() + " is private");
        }
        for (Class<?> inside : kernel.getDeclaredClasses()) {
            int modifiers = inside.getModifiers();
            check(Modifier.isStatic(modifiers) && !Modifier.isPublic(modifiers) && !Modifier.isProtected(modifiers),
                    "the class " + inside.getSimpleName() + " is static, and private or package-visible");
        }
        Script.finish();
    }

    private static void checkMethods(Class<?> kernel) {
        Set<String> found = new TreeSet<>();
        Set<String> names = new TreeSet<>();
        for (String call : FACE) {
            names.add(call.split(" ")[0]);
        }
        for (Method method : kernel.getDeclaredMethods()) {
            int modifiers = method.getModifiers();
            if (Modifier.isPrivate(modifiers)) {
                check(!names.contains(method.getName()), "the private " + method.getName() + " has a name of its own");
                continue;
            }
            check(Modifier.isPublic(modifiers) && !Modifier.isStatic(modifiers) && takesAndAnswersInts(method),
                    method.getName() + " is a call of the face");
            found.add(method.getName() + " " + method.getParameterCount() + thrownBy(method));
        }
        check(found.equals(FACE), "the calls are those of the face: " + found);
    }

    private static String thrownBy(Method method) {
        StringBuilder text = new StringBuilder();
        for (Class<?> thrown : method.getExceptionTypes()) {
            text.append(' ').append(SHORT_NAMES.get(thrown));
        }
        return text.toString();
    }

    private static boolean takesAndAnswersInts(Method method) {
        for (Class<?> type : method.getParameterTypes()) {
            if (type != int.class) {
                return false;
            }
        }
        return method.getReturnType() == int.class;
    }

    private static void check(boolean holds, String text) {
        if (!holds) {
            Script.wrong("it does not hold that " + text);
        }
    }
}
