import java.lang.reflect.InvocationTargetException;
import java.lang.reflect.Method;
import java.util.ArrayList;
import java.util.Comparator;
import java.util.List;
import java.util.Random;

/** Runs of 512 calls with drawn arguments, right and wrong ones, each compared with the plain burrow's answer. */
public final class RandomRunsTest {
    private static final int CALLS = 512;

    private final Random random;
    private final TextBurrow burrow = new TextBurrow();
    private final PlainBurrow plain = new PlainBurrow();
    private final List<Method> edits = new ArrayList<>();
    private final List<Method> others = new ArrayList<>();
    private final DrawnArguments drawn;
    private final int editShare;

    private RandomRunsTest(long seed) {
        random = new Random(seed);
        drawn = new DrawnArguments(random, plain, 1 + random.nextInt(8));
        editShare = 2 + random.nextInt(30);
        Method[] all = TextBurrow.class.getDeclaredMethods();
        java.util.Arrays.sort(all, Comparator.comparing(Method::getName));
        for (Method method : all) {
            if (java.lang.reflect.Modifier.isPublic(method.getModifiers())) {
                boolean isEdit = " newText append repeat draw fibonacci insert remove undo snapshot restore sign wipe "
                        .contains(" " + method.getName() + " ");
                (isEdit ? edits : others).add(method);
            }
        }
    }

    public static void main(String[] args) {
        int runs = args.length > 0 ? Integer.parseInt(args[0]) : 150;
        for (long seed = 0; seed < runs; seed++) {
            new RandomRunsTest(seed).run(seed);
        }
        Due.end();
    }

    private void run(long seed) {
        for (int call = 0; call < CALLS; call++) {
            List<Method> from = call < 3 || random.nextInt(100) < editShare ? edits : others;
            Method method = from.get(random.nextInt(from.size()));
            if (call < 2) {
                method = named("newText");
            }
            Object[] arguments = drawn.of(method);
            Object due = answer(plain, method, arguments);
            Object got = answer(burrow, method, arguments);
            Due.isEqual("run " + seed + ", call " + call + ": " + method.getName() + List.of(arguments), got, due);
            if (!due.equals(got)) {
                return;
            }
        }
    }

    private Method named(String name) {
        for (Method method : edits) {
            if (method.getName().equals(name)) {
                return method;
            }
        }
        throw new IllegalStateException(name);
    }

    private static Object answer(Object target, Method method, Object[] arguments) {
        return Due.answer(() -> {
            try {
                Method own = target.getClass().getDeclaredMethod(method.getName(), method.getParameterTypes());
                own.setAccessible(true);
                return own.invoke(target, arguments);
            } catch (InvocationTargetException e) {
                throw (Exception) e.getCause();
            }
        });
    }
}
