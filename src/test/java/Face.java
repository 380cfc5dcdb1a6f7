import java.lang.reflect.InvocationTargetException;
import java.lang.reflect.Method;
import java.lang.reflect.Modifier;
import java.util.TreeMap;

/** The calls of the face by their names, for tests that make any of them. */
final class Face {
    private static final TreeMap<String, Method> CALLS = new TreeMap<>();

    static {
        for (Method m : ConfettiMinutes.class.getDeclaredMethods()) {
            if (Modifier.isPublic(m.getModifiers())) {
                CALLS.put(m.getName(), m);
            }
        }
    }

    private Face() {
    }

    static Iterable<String> names() {
        return CALLS.keySet();
    }

    static boolean has(String name) {
        return CALLS.containsKey(name);
    }

    static int numbersOf(String name) {
        return CALLS.get(name).getParameterCount();
    }

    static boolean mayThrow(String name) {
        return CALLS.get(name).getExceptionTypes().length > 0;
    }

    /** The answer as a text, or the name of what was thrown. */
    static String answer(ConfettiMinutes x, String name, int... numbers) {
        Object[] boxed = new Object[numbers.length];
        for (int i = 0; i < numbers.length; i++) {
            boxed[i] = numbers[i];
        }
        try {
            return String.valueOf(CALLS.get(name).invoke(x, boxed));
        } catch (InvocationTargetException e) {
            return e.getCause().getClass().getSimpleName();
        } catch (IllegalAccessException e) {
            throw new IllegalStateException(e);
        }
    }
}
