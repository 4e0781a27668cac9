import java.lang.reflect.InvocationTargetException;
import java.lang.reflect.Method;
import java.util.ArrayList;
import java.util.Comparator;
import java.util.List;
import java.util.Random;

/** Runs of 512 calls with drawn arguments, right and wrong ones, each compared with the plain burrow's answer. */
public final class RandomRunsTest {
    private static final int CALLS = 512;

    private final Random random;
    private final TextBurrow burrow = new TextBurrow();
    private final PlainBurrow plain = new PlainBurrow();
    private final List<Method> edits = new ArrayList<>();
    private final List<Method> others = new ArrayList<>();
    private final StringBuilder said = new StringBuilder();
    private final int letters;
    private final int editShare;

    private RandomRunsTest(long seed) {
        random = new Random(seed);
        letters = 1 + random.nextInt(8);
        editShare = 2 + random.nextInt(30);
        Method[] all = TextBurrow.class.getDeclaredMethods();
        java.util.Arrays.sort(all, Comparator.comparing(Method::getName));
        for (Method method : all) {
            if (java.lang.reflect.Modifier.isPublic(method.getModifiers())) {
                boolean isEdit = " newText append repeat draw fibonacci insert remove undo snapshot restore sign wipe "
                        .contains(" " + method.getName() + " ");
                (isEdit ? edits : others).add(method);
            }
        }
    }

    public static void main(String[] args) {
        int runs = args.length > 0 ? Integer.parseInt(args[0]) : 150;
        for (long seed = 0; seed < runs; seed++) {
            new RandomRunsTest(seed).run(seed);
        }
        Due.end();
    }

    private void run(long seed) {
        for (int call = 0; call < CALLS; call++) {
            List<Method> from = call < 3 || random.nextInt(100) < editShare ? edits : others;
            Method method = from.get(random.nextInt(from.size()));
            if (call < 2) {
                method = named("newText");
            }
            Object[] arguments = arguments(method);
            Object due = answer(plain, method, arguments);
            Object got = answer(burrow, method, arguments);
            said.append(method.getName()).append(List.of(arguments)).append(' ');
            Due.isEqual("run " + seed + ", call " + call + ": " + method.getName() + List.of(arguments), got, due);
            if (!due.equals(got)) {
                return;
            }
        }
    }

    private Method named(String name) {
        for (Method method : edits) {
            if (method.getName().equals(name)) {
                return method;
            }
        }
        throw new IllegalStateException(name);
    }

    private static Object answer(Object target, Method method, Object[] arguments) {
        return Due.answer(() -> {
            try {
                Method own = target.getClass().getDeclaredMethod(method.getName(), method.getParameterTypes());
                own.setAccessible(true);
                return own.invoke(target, arguments);
            } catch (InvocationTargetException e) {
                throw (Exception) e.getCause();
            }
        });
    }

    private Object[] arguments(Method method) {
        Class<?>[] types = method.getParameterTypes();
        Object[] arguments = new Object[types.length];
        int from = 0;
        for (int i = 0; i < types.length; i++) {
            if (types[i] == boolean.class) {
                arguments[i] = random.nextBoolean();
            } else if (types[i] == char.class) {
                arguments[i] = character(method.getName(), i);
            } else {
                int number = number(method.getName(), i, from);
                arguments[i] = number;
                from = number;
            }
        }
        return arguments;
    }

    private char character(String name, int index) {
        if (random.nextInt(25) == 0) {
            return "ahi`?0AZ78pfl\0\u00e9\u1234".charAt(random.nextInt(16));
        }
        switch (name) {
            case "sign":
                return random.nextInt(6) == 0 ? '?' : (char) ('a' + random.nextInt(letters));
            case "node":
                return "dflpc".charAt(random.nextInt(5));
            case "phrases":
                return "78".charAt(random.nextInt(2));
            case "phrase":
                return index == 0 ? "78".charAt(random.nextInt(2)) : "plf".charAt(random.nextInt(3));
            case "room":
                return "pr78gw".charAt(random.nextInt(6));
            default:
                return (char) ('a' + random.nextInt(letters));
        }
    }

    private int number(String name, int index, int before) {
        int most = most(name, index, before);
        int least = least(name, index, before);
        int kind = random.nextInt(40);
        if (kind == 0) {
            return least - 1;
        }
        if (kind == 1) {
            return most + 1;
        }
        if (kind == 2) {
            int[] far = {Integer.MIN_VALUE, Integer.MAX_VALUE, -1, 0, 160, 161, 1000};
            return far[random.nextInt(far.length)];
        }
        if (kind == 3) {
            return most;
        }
        if (kind == 4) {
            return least;
        }
        return least + (most > least ? random.nextInt(most - least + 1) : 0);
    }

    private int least(String name, int index, int before) {
        String key = name + index;
        if (" repeat2 draw2 draw3 fibonacci1 setSample0 select1 distinctAnew0 ".contains(" " + key + " ")) {
            return 1;
        }
        return " quantile1 below1 most1 ".contains(" " + key + " ") ? Math.max(before, 0) : 0;
    }

    private int most(String name, int index, int before) {
        int size = plain.whole();
        int last = size - 1;
        switch (name + index) {
            case "append0": case "repeat0": case "draw0": case "fibonacci0": case "insert0": case "remove0":
            case "length0": case "letterAt0": case "inText0":
                return plain.texts() - 1;
            case "repeat1": case "remove1": case "letterAt1":
                return before >= 0 && before < plain.texts() ? plain.length(before) - 1 : 3;
            case "insert1":
                return before >= 0 && before < plain.texts() ? plain.length(before) : 3;
            case "repeat2": case "draw2": case "fibonacci1":
                return random.nextBoolean() ? 8 : "fibonacci".equals(name) ? 90 : 60;
            case "draw1":
                return random.nextBoolean() ? 3 : 9999;
            case "draw3":
                return letters;
            case "restore0":
                return 1;
            case "setSample0":
                return 16;
            case "ones0":
                return 3;
            case "ones1": case "rank1": case "quantile0": case "quantile1": case "below0": case "below1":
            case "most0": case "most1":
                return random.nextBoolean() ? Math.min(size, before + 6) : size;
            case "rank0": case "select0":
                return random.nextBoolean() ? 7 : 13;
            case "select1":
                return random.nextBoolean() ? 3 : size / 2;
            case "quantile2":
                return random.nextBoolean() ? 3 : size;
            case "below2":
                return 14;
            case "at0":
                return random.nextBoolean() ? 2 : size / 4;
            case "matching0":
                return 2;
            case "near0": case "nearAnew0": case "listed0":
                return 3;
            case "node0":
                return (int) (size * 0.6);
            case "distinct0": case "distinctAnew0":
                return random.nextBoolean() ? 6 : 160;
            case "phrase1": case "left0":
                return size / 3;
            case "rule0":
                return size / 6;
            default:
                return last;
        }
    }
}
