import java.lang.reflect.Method;
import java.util.Random;

/** Arguments that are drawn for a call: mostly right ones, those at the edges often, and wrong ones at times. */
final class DrawnArguments {
    private final Random random;
    /** Tells how long the texts are at which the arguments are aimed. */
    private final PlainBurrow plain;
    private final int letters;

    DrawnArguments(Random random, PlainBurrow plain, int letters) {
        this.random = random;
        this.plain = plain;
        this.letters = letters;
    }

    Object[] of(Method method) {
        Class<?>[] types = method.getParameterTypes();
        Object[] arguments = new Object[types.length];
        int from = 0;
        for (int i = 0; i < types.length; i++) {
            if (types[i] == boolean.class) {
                arguments[i] = random.nextBoolean();
            } else if (types[i] == char.class) {
                arguments[i] = character(method.getName(), i);
            } else {
                int number = number(method.getName(), i, from);
                arguments[i] = number;
                from = number;
            }
        }
        return arguments;
    }

    private char character(String name, int index) {
        if (random.nextInt(25) == 0) {
            return "ahi`?0AZ78pfl\0\u00e9\u1234".charAt(random.nextInt(16));
        }
        switch (name) {
            case "sign":
                return random.nextInt(6) == 0 ? '?' : (char) ('a' + random.nextInt(letters));
            case "node":
                return "dflpc".charAt(random.nextInt(5));
            case "phrases":
                return "78".charAt(random.nextInt(2));
            case "phrase":
                return index == 0 ? "78".charAt(random.nextInt(2)) : "plf".charAt(random.nextInt(3));
            case "room":
                return "pr78gw".charAt(random.nextInt(6));
            default:
                return (char) ('a' + random.nextInt(letters));
        }
    }

    private int number(String name, int index, int before) {
        int most = most(name, index, before);
        int least = least(name, index, before);
        int kind = random.nextInt(40);
        if (kind == 0) {
            return least - 1;
        }
        if (kind == 1) {
            return most + 1;
        }
        if (kind == 2) {
            int[] far = {Integer.MIN_VALUE, Integer.MAX_VALUE, -1, 0, 160, 161, 1000};
            return far[random.nextInt(far.length)];
        }
        if (kind == 3) {
            return most;
        }
        if (kind == 4) {
            return least;
        }
        return least + (most > least ? random.nextInt(most - least + 1) : 0);
    }

    private int least(String name, int index, int before) {
        String key = name + index;
        if (" repeat2 draw2 draw3 fibonacci1 setSample0 select1 distinctAnew0 ".contains(" " + key + " ")) {
            return 1;
        }
        return " quantile1 below1 most1 ".contains(" " + key + " ") ? Math.max(before, 0) : 0;
    }

    private int most(String name, int index, int before) {
        int size = plain.whole();
        int last = size - 1;
        switch (name + index) {
            case "append0": case "repeat0": case "draw0": case "fibonacci0": case "insert0": case "remove0":
            case "length0": case "letterAt0": case "inText0":
                return plain.texts() - 1;
            case "repeat1": case "remove1": case "letterAt1":
                return before >= 0 && before < plain.texts() ? plain.length(before) - 1 : 3;
            case "insert1":
                return before >= 0 && before < plain.texts() ? plain.length(before) : 3;
            case "repeat2": case "draw2": case "fibonacci1":
                return random.nextBoolean() ? 8 : "fibonacci".equals(name) ? 90 : 60;
            case "draw1":
                return random.nextBoolean() ? 3 : 9999;
            case "draw3":
                return letters;
            case "restore0":
                return 1;
            case "setSample0":
                return 16;
            case "ones0":
                return 3;
            case "ones1": case "rank1": case "quantile0": case "quantile1": case "below0": case "below1":
            case "most0": case "most1":
                return random.nextBoolean() ? Math.min(size, before + 6) : size;
            case "rank0": case "select0":
                return random.nextBoolean() ? 7 : 13;
            case "select1":
                return random.nextBoolean() ? 3 : size / 2;
            case "quantile2":
                return random.nextBoolean() ? 3 : size;
            case "below2":
                return 14;
            case "at0":
                return random.nextBoolean() ? 2 : size / 4;
            case "matching0":
                return 2;
            case "near0": case "nearAnew0": case "listed0":
                return 3;
            case "node0":
                return (int) (size * 0.6);
            case "distinct0": case "distinctAnew0":
                return random.nextBoolean() ? 6 : 160;
            case "phrase1": case "left0":
                return size / 3;
            case "rule0":
                return size / 6;
            default:
                return last;
        }
    }
}
