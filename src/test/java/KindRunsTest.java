import java.lang.reflect.Method;
import java.lang.reflect.Modifier;
import java.util.ArrayList;
import java.util.Arrays;
import java.util.Collections;
import java.util.Comparator;
import java.util.List;
import java.util.Random;
import java.util.Set;
import java.util.TreeSet;

/**
 * Runs of 512 calls on one object for each kind of whole. In each run, every promise is called while the whole is of
 * that kind, and changes, refused calls, undo and restore are among the calls; each answer is compared with the one of
 * the plain burrow, which has the document's own words.
 */
public final class KindRunsTest {
    private static final int CALLS = 512;
    private static final int RUNS = 20;
    private static final List<Method> FACE = new ArrayList<>();
    private static final Set<String> REFUSED = new TreeSet<>();
    private static final int[] FAR = {-1, 161, Integer.MIN_VALUE, Integer.MAX_VALUE};
    /** The first two can be made at a full whole, too. */
    private static final String[] CHANGES = {"remove", "restore", "newText", "append", "repeat", "draw", "fibonacci",
        "insert"};
    private static final String[] SEARCH = {"count", "countAnew", "at", "firstRank", "matching", "near", "nearAnew",
        "inText", "listed", "top"};
    private static final String FAR_SIGNS = "`iA09\0\u0161";

    private final WholeKind kind;
    private final Set<String> answered;
    private final String name;
    private final Random random;
    private final PlainBurrow plain = new PlainBurrow();
    private final Calls got = new Calls(new TextBurrow());
    private final Calls due = new Calls(plain);
    private final DrawnArguments drawn;
    private final Set<String> asked = new TreeSet<>();
    private int calls;
    private int changes;
    private int undone;
    private int restored;
    private int refused;

    private KindRunsTest(WholeKind kind, Set<String> answered, int run) {
        this.kind = kind;
        this.answered = answered;
        name = kind + ", run " + run;
        random = new Random(31 * run + kind.ordinal());
        drawn = new DrawnArguments(random, plain, kind.letters);
    }

    public static void main(String[] args) {
        int runs = args.length > 0 ? Integer.parseInt(args[0]) : RUNS;
        Set<String> all = face();
        for (WholeKind kind : WholeKind.values()) {
            Set<String> answered = new TreeSet<>();
            for (int run = 0; run < runs; run++) {
                new KindRunsTest(kind, answered, run).run();
            }
            Set<String> never = new TreeSet<>(all);
            never.removeAll(answered);
            Due.isEqual(kind + ": what is never answered", never, kind.never());
        }
        Due.isEqual("what was refused", REFUSED, refusals());
        Due.end();
    }

    private static Set<String> face() {
        Set<String> names = new TreeSet<>();
        for (Method method : TextBurrow.class.getDeclaredMethods()) {
            if (Modifier.isPublic(method.getModifiers())) {
                FACE.add(method);
                names.add(method.getName());
            }
        }
        FACE.sort(Comparator.comparing(Method::getName));
        Due.isEqual("how many methods have a name of their own", names.size(), 61);
        return names;
    }

    private static Set<String> refusals() {
        Set<String> all = new TreeSet<>();
        for (Method method : FACE) {
            for (Class<?> thrown : method.getExceptionTypes()) {
                all.add(method.getName() + " " + thrown.getSimpleName());
            }
        }
        return all;
    }

    private void run() {
        compare("texts");
        kind.make(random, this::compare);
        compare("snapshot");
        Due.isEqual(name + ": the kind of " + plain.all(), kind.has(plain.all()), true);
        askEachPromise();
        refuseEachPromise();
        changeAndUndo();
        lookForPatterns();
        takeSnapshots();
        comeBackWhole();
        while (calls < CALLS) {
            boolean isOff = !kind.has(plain.all());
            if (isOff && random.nextInt(4) == 0) {
                comeBack();
            } else {
                compare(FACE.get(random.nextInt(FACE.size())));
            }
        }
        tellWhatWasCalled();
    }

    private void tellWhatWasCalled() {
        Due.isEqual(name + ": calls", calls, CALLS);
        Due.isEqual(name + ": promises called at such a whole", asked.size(), FACE.size());
        Due.isEqual(name + ": " + changes + " changes", changes >= 22, true);
        Due.isEqual(name + ": " + undone + " undone", undone >= 20, true);
        Due.isEqual(name + ": " + restored + " restored", restored >= 3, true);
        Due.isEqual(name + ": " + refused + " refused", refused >= 50, true);
    }

    private void askEachPromise() {
        List<Method> order = new ArrayList<>(FACE);
        Collections.shuffle(order, random);
        for (Method method : order) {
            comeBackWhole();
            compare(method);
        }
    }

    /** Each with one argument that is wrong at any whole. */
    private void refuseEachPromise() {
        for (Method method : FACE) {
            Object[] arguments = drawn.of(method);
            int index = arguments.length > 0 ? random.nextInt(arguments.length) : 0;
            if (arguments.length > 0 && !(arguments[index] instanceof Boolean)) {
                comeBackWhole();
                arguments[index] = wrongFor(arguments[index]);
                compare(method.getName(), arguments);
            }
        }
    }

    private Object wrongFor(Object argument) {
        if (argument instanceof Integer) {
            return FAR[random.nextInt(FAR.length)];
        }
        return FAR_SIGNS.charAt(random.nextInt(FAR_SIGNS.length()));
    }

    /** More changes than can be undone, and all that are kept undone. */
    private void changeAndUndo() {
        int target = changes + 22;
        for (int tries = 0; tries < 100 && changes < target; tries++) {
            compare(named(CHANGES[plain.whole() < 160 ? random.nextInt(CHANGES.length) : random.nextInt(2)]));
            compare("print");
        }
        Due.isEqual(name + ": how many changes are kept once one is undone", compare("undo"), 19);
        while (!Calls.isException(compare("undo"))) {
            compare("print");
            compare(FACE.get(random.nextInt(FACE.size())));
        }
        compare("restore", 0);
    }

    private static Method named(String name) {
        for (Method method : FACE) {
            if (method.getName().equals(name)) {
                return method;
            }
        }
        throw new AssertionError(name);
    }

    /** No pattern, then a piece of the whole, the same with other signs in it, and signs up to what is refused. */
    private void lookForPatterns() {
        comeBackWhole();
        lookFor("");
        String letters = plain.all().replaceAll("[0-5]", "") + "ab";
        int from = random.nextInt(letters.length());
        String piece = letters.substring(from, Math.min(letters.length(), from + 1 + random.nextInt(6)));
        lookFor(piece);
        lookFor(piece.replace(piece.charAt(0), random.nextBoolean() ? '?' : 'b'));
        if (random.nextBoolean()) {
            lookFor((letters + "?").repeat(21).substring(0, 21));
        }
    }

    private void lookFor(String pattern) {
        compare("wipe");
        for (char sign : pattern.toCharArray()) {
            compare("sign", sign);
        }
        for (String call : SEARCH) {
            compare(named(call));
        }
    }

    private void takeSnapshots() {
        while (random.nextInt(8) > 0 && !Calls.isException(compare("snapshot"))) {
            compare("texts");
        }
    }

    private void comeBackWhole() {
        if (!kind.has(plain.all())) {
            comeBack();
        }
        if (!kind.has(plain.all())) {
            compare("restore", 0);
        }
    }

    private void comeBack() {
        if (random.nextBoolean()) {
            compare("undo");
        } else {
            compare("restore", 0);
        }
    }

    private void compare(Method method) {
        compare(method.getName(), drawn.of(method));
    }

    private Object compare(String call, Object... arguments) {
        boolean isOfKind = kind.has(plain.all());
        Object is = got.answer(call, arguments);
        Object asked = due.answer(call, arguments);
        calls++;
        Due.isEqual(name + ", call " + calls + ": " + call + Arrays.toString(arguments) + " at " + plain.all(), is,
                asked);
        note(call, asked, isOfKind);
        return asked;
    }

    private void note(String call, Object answer, boolean isOfKind) {
        if (isOfKind) {
            asked.add(call);
        }
        if (Calls.isException(answer)) {
            refused++;
            REFUSED.add(call + " " + answer);
            return;
        }
        if (isOfKind) {
            answered.add(call);
        }
        changes += Arrays.asList(CHANGES).contains(call) ? 1 : 0;
        undone += call.equals("undo") ? 1 : 0;
        restored += call.equals("restore") ? 1 : 0;
    }
}
