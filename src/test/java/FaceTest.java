import java.lang.reflect.Field;
import java.lang.reflect.Method;
import java.lang.reflect.Modifier;
import java.util.Arrays;
import java.util.Set;
import java.util.TreeSet;

/** The class shows the document's face and nothing else (rule 1 of LANGUAGE.md). */
public final class FaceTest {
    private static final Set<String> FACE = new TreeSet<>(Arrays.asList(
            "spawn 2", "table 4", "frame 4", "protect 3", "copy 2", "release 2", "start 1", "give 1", "kill 1",
            "reap 1", "open 3", "share 3", "close 2", "put 2", "take 2", "read 1", "write 2", "expect 2", "send 2",
            "process 2", "page 2", "count 1"));

    private FaceTest() {
    }

    public static void main(String[] args) {
        Class<?> kernel = FiniteKernel.class;
        check(Modifier.isPublic(kernel.getModifiers()) && Modifier.isFinal(kernel.getModifiers()),
                "the class is public and final");
        check(kernel.getConstructors().length == 1 && kernel.getDeclaredConstructors().length == 1
                && kernel.getConstructors()[0].getParameterCount() == 0, "there is one public constructor");
        checkMethods(kernel);
        for (Field field : kernel.getDeclaredFields()) {
            check(Modifier.isPrivate(field.getModifiers()), "the field " + field.getName() + " is private");
        }
        Script.finish();
    }

    private static void checkMethods(Class<?> kernel) {
        Set<String> found = new TreeSet<>();
        Set<String> names = new TreeSet<>();
        for (String call : FACE) {
            names.add(call.split(" ")[0]);
        }
        for (Method method : kernel.getDeclaredMethods()) {
            int modifiers = method.getModifiers();
            if (Modifier.isPrivate(modifiers)) {
                check(!names.contains(method.getName()), "the private " + method.getName() + " has a name of its own");
                continue;
            }
            check(Modifier.isPublic(modifiers) && !Modifier.isStatic(modifiers) && takesAndAnswersInts(method),
                    method.getName() + " is a call of the face");
            found.add(method.getName() + " " + method.getParameterCount());
        }
        check(found.equals(FACE), "the calls are those of the face: " + found);
    }

    private static boolean takesAndAnswersInts(Method method) {
        for (Class<?> type : method.getParameterTypes()) {
            if (type != int.class) {
                return false;
            }
        }
        return method.getReturnType() == int.class;
    }

    private static void check(boolean holds, String text) {
        if (!holds) {
            Script.wrong("it does not hold that " + text);
        }
    }
}
