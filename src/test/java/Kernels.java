import java.lang.reflect.InvocationTargetException;
import java.lang.reflect.Method;
import java.lang.reflect.Modifier;
import java.util.HashMap;
import java.util.Map;

/** Calls a kernel by a call's name; shared by the tests. */
final class Kernels {
    static final int PROCESSES = 5;
    static final int PAGES = 20;
    static final int ADDRESSES = 64;

    private static final Map<String, Method> CALLS = callsByName();

    private Kernels() {
    }

    /** The answer as a text, or the simple name of what the call throws. */
    static String answer(FiniteKernel kernel, String name, int... numbers) {
        try {
            return String.valueOf(methodNamed(name, numbers.length).invoke(kernel, boxed(numbers)));
        } catch (InvocationTargetException thrown) {
            return thrown.getCause().getClass().getSimpleName();
        } catch (IllegalAccessException refused) {
            throw new AssertionError(refused);
        }
    }

    private static Method methodNamed(String name, int parameters) {
        Method method = CALLS.get(name);
        if (method == null || method.getParameterCount() != parameters) {
            throw new AssertionError("no call " + name + " with " + parameters + " numbers");
        }
        return method;
    }

    private static Map<String, Method> callsByName() {
        Map<String, Method> calls = new HashMap<>();
        for (Method method : FiniteKernel.class.getDeclaredMethods()) {
            if (Modifier.isPublic(method.getModifiers())) {
                calls.put(method.getName(), method);
            }
        }
        return calls;
    }

    private static Object[] boxed(int[] numbers) {
        Object[] boxes = new Object[numbers.length];
        for (int i = 0; i < numbers.length; i++) {
            boxes[i] = numbers[i];
        }
        return boxes;
    }
}
