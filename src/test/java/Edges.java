import java.nio.file.Files;
import java.nio.file.Path;
import java.util.ArrayList;
import java.util.Arrays;
import java.util.HashMap;
import java.util.HashSet;
import java.util.List;
import java.util.Map;
import java.util.Set;
import java.util.TreeMap;
import java.util.TreeSet;
import java.util.regex.Matcher;
import java.util.regex.Pattern;

/**
 * Calls at the edges of what is taken. Each is made on a state of its own, by the class and by the plain burrow; the
 * answers of both must be the one that is written by hand, and both must be left with the same.
 */
final class Edges {
    static final String STATE = "IllegalStateException";
    static final String ARGUMENT = "IllegalArgumentException";
    static final String BOUNDS = "IndexOutOfBoundsException";
    static final String ELEMENT = "NoSuchElementException";
    static final String UNSUPPORTED = "UnsupportedOperationException";
    static final String ARITHMETIC = "ArithmeticException";
    private static final Path DOCUMENT = Path.of("../shared/DOC.md");
    private static final List<String> EDITS = List.of("newText", "append", "repeat", "draw", "fibonacci", "insert",
            "remove", "undo", "snapshot", "restore", "setSample", "sign", "wipe");

    /** What was tested: calls that were taken, "call exception" that was thrown, "call exception other" in order. */
    private static final Set<String> TESTED = new HashSet<>();
    private static final Map<String, String> TOLD = new HashMap<>();

    private Edges() {
    }

    static Object[] with(Object... arguments) {
        return arguments;
    }

    static void taken(State state, Object due, String call, Object... arguments) {
        String what = what(state, call, arguments);
        Calls burrow = state.burrow();
        Calls plain = state.plain();
        Due.isEqual(what, burrow.answer(call, arguments), due);
        Due.isEqual(what + ", plainly", plain.answer(call, arguments), due);
        String left = EDITS.contains(call) ? told(plain) : toldOf(state);
        Due.isEqual("left by " + what, told(burrow), left);
        TESTED.add(call);
    }

    static void refused(State state, String due, String call, Object... arguments) {
        String what = what(state, call, arguments);
        Calls burrow = state.burrow();
        Due.isEqual(what, burrow.answer(call, arguments), due);
        Due.isEqual(what + ", plainly", state.plain().answer(call, arguments), due);
        Due.isEqual("left by " + what, told(burrow), toldOf(state));
        TESTED.add(call + " " + due);
    }

    /** Both exceptions apply, and the first one is due. */
    static void first(State state, String due, String other, String call, Object... arguments) {
        refused(state, due, call, arguments);
        TESTED.add(call + " " + due + " " + other);
    }

    /** The last numbers that are taken on both sides, with their answers, and the first ones that are not. */
    static void range(State state, String call, Object[] with, int hole, int least, Object atLeast, int most,
            Object atMost, String due) {
        taken(state, atLeast, call, filled(with, hole, least));
        taken(state, atMost, call, filled(with, hole, most));
        for (int none : new int[] {least - 1, most + 1, Integer.MIN_VALUE, Integer.MAX_VALUE}) {
            refused(state, due, call, filled(with, hole, none));
        }
    }

    static void none(State state, String call, Object[] with, int hole, String due) {
        for (int none : new int[] {0, -1, 1}) {
            refused(state, due, call, filled(with, hole, none));
        }
    }

    /** For calls whose first argument is a text: those of SIX are 0 to 5. */
    static void texts(String call, Object[] with, Object ofFirst, Object ofLast) {
        range(State.SIX, call, with, 0, 0, ofFirst, 5, ofLast, BOUNDS);
        none(State.NONE, call, with, 0, BOUNDS);
        none(State.EMPTIED, call, with, 0, BOUNDS);
    }

    /** All of these characters are taken, one answer for all or one for each, and the ones next to them are not. */
    static void characters(State state, String call, Object[] with, int hole, String taken, Object[] dues, String due) {
        for (int i = 0; i < taken.length(); i++) {
            taken(state, dues[i % dues.length], call, filled(with, hole, taken.charAt(i)));
        }
        Set<Character> nones = new TreeSet<>(Arrays.asList('\0', ' ', '?', '0', '5', 'A', 'H', '\u00e9', '\uffff'));
        for (char sign : taken.toCharArray()) {
            nones.addAll(Arrays.asList((char) (sign - 1), (char) (sign + 1), (char) (sign + 256)));
        }
        for (char none : nones) {
            if (taken.indexOf(none) < 0) {
                refused(state, due, call, filled(with, hole, none));
            }
        }
    }

    private static Object[] filled(Object[] with, int hole, Object argument) {
        Object[] arguments = with.clone();
        arguments[hole] = argument;
        return arguments;
    }

    private static String what(State state, String call, Object... arguments) {
        return call + Arrays.toString(arguments) + " at " + state.name;
    }

    /** The class's and the plain burrow's state must be told alike before anything is asked of it. */
    private static String toldOf(State state) {
        return TOLD.computeIfAbsent(state.name, name -> {
            String told = told(state.plain());
            Due.isEqual("left by nothing at " + name, told(state.burrow()), told);
            return told;
        });
    }

    /** All that later calls can see of a burrow, which is used up by it. */
    static String told(Calls calls) {
        StringBuilder told = new StringBuilder();
        int whole = calls.number("whole");
        for (int place = 0; place < whole; place++) {
            told.append(calls.answer("rebuilt", place));
        }
        tellTexts(told, calls);
        for (int text = 0; text < 6; text++) {
            told.append(' ').append(calls.answer("inText", text));
        }
        tell(told.append(" sample"), calls.answer("setSample", 1));
        Object kept = 0;
        for (int i = 0; i <= 20 && !Calls.isException(kept); i++) {
            kept = calls.answer("undo");
            tellTexts(told.append(" undo ").append(kept), calls);
        }
        Object restored = 0;
        for (int i = 0; i <= 8 && !Calls.isException(restored); i++) {
            restored = calls.answer("restore", i);
            tellTexts(told.append(" restore ").append(restored), calls);
        }
        tell(told.append(" pattern"), calls.answer("wipe"));
        return told.toString();
    }

    private static void tellTexts(StringBuilder told, Calls calls) {
        tell(told, calls.answer("texts"));
        tell(told, calls.answer("whole"));
        tell(told, calls.answer("print"));
        tell(told, calls.answer("count"));
        tell(told, calls.answer("near", 1));
        tell(told, calls.answer("matching", 0));
    }

    private static void tell(StringBuilder told, Object answer) {
        told.append(' ').append(answer);
    }

    /** Each promise was taken once, each of its exceptions thrown, and each ahead of those that come behind it. */
    static void isDocumentCovered() throws Exception {
        Map<String, List<String>> promises = new TreeMap<>();
        String call = "";
        for (String line : Files.readAllLines(DOCUMENT)) {
            Matcher promise = Pattern.compile("## Promise [0-9]+: ([a-zA-Z]+)").matcher(line);
            Matcher thrown = Pattern.compile("Throws `([a-zA-Z]+)`.*").matcher(line);
            if (promise.matches()) {
                call = promise.group(1);
                promises.put(call, new ArrayList<>());
            } else if (thrown.matches()) {
                promises.get(call).add(thrown.group(1));
            }
        }
        Due.isEqual("promises of calls", promises.size(), 61);
        for (String each : promises.keySet()) {
            List<String> thrown = promises.get(each);
            Due.isEqual(each + " is tested", TESTED.contains(each), true);
            for (int i = 0; i < thrown.size(); i++) {
                String known = each + " " + thrown.get(i);
                Due.isEqual(known + " is tested", TESTED.contains(known), true);
                for (String other : thrown.subList(i + 1, thrown.size())) {
                    Due.isEqual(known + " ahead of " + other + " is tested", TESTED.contains(known + " " + other), true);
                }
            }
        }
    }
}
