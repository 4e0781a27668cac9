import java.lang.reflect.InvocationTargetException;
import java.lang.reflect.Method;
import java.lang.reflect.Modifier;
import java.util.Arrays;
import java.util.HashMap;
import java.util.Map;

/** One burrow, the class's or the plain one, whose calls are made by their names, and counted. */
final class Calls {
    private static final int MOST = 512;
    private static final Map<String, Method> METHODS = new HashMap<>();

    private final Object burrow;
    private int made = 0;

    Calls(Object burrow) {
        this.burrow = burrow;
    }

    /** What the call answers, or the simple name of what it throws. */
    Object answer(String name, Object... arguments) {
        made++;
        if (made > MOST) {
            throw new AssertionError("the document promises nothing about call " + made);
        }
        try {
            return methodOf(burrow.getClass(), name).invoke(burrow, arguments);
        } catch (InvocationTargetException e) {
            return e.getCause().getClass().getSimpleName();
        } catch (IllegalAccessException | IllegalArgumentException e) {
            throw new AssertionError(name + Arrays.toString(arguments) + " is no call", e);
        }
    }

    /** A call that makes a state, so that an exception is a fault of the test or of the class. */
    Calls with(String name, Object... arguments) {
        Object got = answer(name, arguments);
        if (isException(got)) {
            Due.isEqual(name + Arrays.toString(arguments) + " on the way to a state", got, "an answer");
        }
        return this;
    }

    int number(String name, Object... arguments) {
        Object got = answer(name, arguments);
        return got instanceof Integer ? (Integer) got : 0;
    }

    boolean hasRoomFor(int calls) {
        return made + calls <= MOST;
    }

    static boolean isException(Object got) {
        return got instanceof String && ((String) got).endsWith("Exception");
    }

    /** No two methods of the face have the same name. */
    private static Method methodOf(Class<?> owner, String name) {
        return METHODS.computeIfAbsent(owner.getName() + "." + name, key -> {
            for (Method method : owner.getDeclaredMethods()) {
                if (method.getName().equals(name) && Modifier.isPublic(method.getModifiers())) {
                    method.setAccessible(true);
                    return method;
                }
            }
            throw new AssertionError("no method " + key);
        });
    }
}
