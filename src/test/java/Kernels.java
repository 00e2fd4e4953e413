import java.lang.reflect.InvocationTargetException;
import java.lang.reflect.Method;
import java.lang.reflect.Modifier;
import java.util.HashMap;
import java.util.Map;

/** Calls a kernel by a call's name and tells its whole visible state; shared by the tests. */
final class Kernels {
    static final int PROCESSES = 5;
    static final int PAGES = 20;

    private static final Map<String, Method> CALLS = callsByName();

    private Kernels() {
    }

    /** The answer as a text, or the simple name of what the call throws. */
    static String answer(FiniteKernel kernel, String name, int... numbers) {
        try {
            return String.valueOf(methodNamed(name, numbers.length).invoke(kernel, boxed(numbers)));
        } catch (InvocationTargetException thrown) {
            return thrown.getCause().getClass().getSimpleName();
        } catch (IllegalAccessException refused) {
            throw new AssertionError(refused);
        }
    }

    static String visibleState(FiniteKernel kernel) {
        StringBuilder text = new StringBuilder();
        for (int what = 0; what <= 3; what++) {
            text.append("count ").append(what).append('=').append(kernel.count(what)).append("; ");
        }
        for (int process = 1; process <= PROCESSES; process++) {
            text.append("process ").append(process).append(':');
            for (int what = 0; what <= 4; what++) {
                text.append(' ').append(kernel.process(process, what));
            }
            text.append("; ");
        }
        for (int page = 0; page < PAGES; page++) {
            text.append("page ").append(page).append(':');
            for (int what = 0; what <= 2; what++) {
                text.append(' ').append(kernel.page(page, what));
            }
            text.append("; ");
        }
        return text.toString();
    }

    private static Method methodNamed(String name, int parameters) {
        Method method = CALLS.get(name);
        if (method == null || method.getParameterCount() != parameters) {
            throw new AssertionError("no call " + name + " with " + parameters + " numbers");
        }
        return method;
    }

    private static Map<String, Method> callsByName() {
        Map<String, Method> calls = new HashMap<>();
        for (Method method : FiniteKernel.class.getDeclaredMethods()) {
            if (Modifier.isPublic(method.getModifiers())) {
                calls.put(method.getName(), method);
            }
        }
        return calls;
    }

    private static Object[] boxed(int[] numbers) {
        Object[] boxes = new Object[numbers.length];
        for (int i = 0; i < numbers.length; i++) {
            boxes[i] = numbers[i];
        }
        return boxes;
    }
}
