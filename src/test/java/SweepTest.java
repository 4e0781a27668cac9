import java.util.ArrayList;
import java.util.Arrays;
import java.util.LinkedHashSet;
import java.util.List;
import java.util.Set;

/** Each call with all of its arguments, from below the least to above the most, compared with the plain burrow. */
public final class SweepTest {
    private static final String[] PLACES = {"rebuilt", "suffix", "rankOf", "turned", "common", "commonAnew", "back",
        "walk", "at", "left", "byRules", "distinct", "distinctAnew", "listed", "matching", "inText", "length", "near",
        "nearAnew"};
    private static final String[] ALONE = {"texts", "whole", "count", "countAnew", "firstRank", "top", "nodes",
        "longestRepeat", "runs", "literals", "rules", "least", "density", "densityBits", "meanCommon", "print",
        "isSound"};

    private final State state;
    private Calls burrow;
    private Calls plain;

    private SweepTest(State state) {
        this.state = state;
        renew();
    }

    public static void main(String[] args) {
        State[] states = {State.NONE, State.EMPTIED, State.of(""), State.of("h"), State.of("", ""),
            State.HAND.looking("a?"), State.SIX.looking("?h"), State.like(14).looking("aa"), State.like(15).looking("?"),
            State.like(16).looking("ab"), State.sized(6, 15).looking("ab"), State.sized(2, 16).looking("ba"),
            State.sized(1, 17).looking("abaabacabaaaabacabaa"), State.sized(1, 160).looking("ab?a"),
            State.sized(6, 160).looking("abc"), State.like(159).looking("aaaaaaaaaaaaaaaaaaab"),
            State.of("").and("fibonacci", 0, 90).and("fibonacci", 0, 69).looking("abaab").and("setSample", 16)};
        for (State state : states) {
            SweepTest sweep = new SweepTest(state);
            sweep.asks();
            sweep.asksByTwo();
            sweep.asksByRanks();
            sweep.edits();
        }
        Due.end();
    }

    private void renew() {
        burrow = state.burrow();
        plain = state.plain();
    }

    private void compare(String call, Object... arguments) {
        if (!burrow.hasRoomFor(1)) {
            renew();
        }
        Due.isEqual(call + Arrays.toString(arguments) + " at " + state.name, burrow.answer(call, arguments),
                plain.answer(call, arguments));
    }

    private int whole() {
        return state.plain().number("whole");
    }

    private void asks() {
        int last = Math.max(whole(), 8) + 1;
        for (String call : ALONE) {
            compare(call);
        }
        for (String call : PLACES) {
            for (int argument = -1; argument <= last; argument++) {
                compare(call, argument);
            }
        }
        compare("distinct", 161);
        compare("distinctAnew", 161);
        for (int every = 0; every <= 17; every++) {
            compare("setSample", every);
            for (int rank = -1; rank <= last; rank += 3) {
                compare("walk", rank);
            }
        }
        for (char what = 0; what < 300; what++) {
            compare("room", what);
            compare("phrases", what);
        }
    }

    private void asksByTwo() {
        int last = Math.max(whole(), 8) + 1;
        for (int place = -1; place <= last; place++) {
            for (int code = -1; code <= 14; code++) {
                compare("rank", code, place);
                compare("select", code, place);
            }
            for (int row = -1; row <= 4; row++) {
                compare("ones", row, place);
            }
            for (char what : "dflpcxD".toCharArray()) {
                compare("node", place, what);
            }
            for (char parse : "789".toCharArray()) {
                for (char what : "plfx".toCharArray()) {
                    compare("phrase", parse, place, what);
                }
            }
            compare("rule", place, false);
            compare("rule", place, true);
        }
        for (int text = -1; text <= 6; text++) {
            for (int at = -1; at <= last; at++) {
                compare("letterAt", text, at);
            }
        }
    }

    private void asksByRanks() {
        int size = whole();
        Set<Integer> ranks = new LinkedHashSet<>(Arrays.asList(-1, 0, 1, size / 3, size - 1, size, size + 1));
        for (int near : new int[] {15, 16, 17}) {
            ranks.add(Math.min(near, size));
        }
        for (int from : ranks) {
            for (int to : ranks) {
                compare("most", from, to);
                for (int code = -1; code <= 15; code++) {
                    compare("below", from, to, code);
                }
                for (int index : new int[] {-1, 0, 1, (to - from) / 2, to - from - 1, to - from, to - from + 1}) {
                    compare("quantile", from, to, index);
                }
            }
        }
    }

    /** Every exception ahead of every other: all that can be wrong is wrong alone, and with all the others. */
    private void edits() {
        List<Object[]> calls = new ArrayList<>();
        calls.add(new Object[] {"newText"});
        calls.add(new Object[] {"undo"});
        calls.add(new Object[] {"snapshot"});
        calls.add(new Object[] {"wipe"});
        renew();
        int texts = plain.number("texts");
        for (int number = -1; number <= 8; number++) {
            calls.add(new Object[] {"restore", number});
        }
        for (char sign : "`ahi?>@0A".toCharArray()) {
            calls.add(new Object[] {"sign", sign});
        }
        for (int text : new LinkedHashSet<>(Arrays.asList(-1, 0, texts - 1, texts))) {
            editsOf(text, calls);
        }
        for (Object[] call : calls) {
            edit((String) call[0], Arrays.copyOfRange(call, 1, call.length));
        }
    }

    private void editsOf(int text, List<Object[]> calls) {
        int length = Math.max(plain.number("length", text), 0);
        int space = 160 - whole();
        Set<Integer> counts = new LinkedHashSet<>(Arrays.asList(-1, 0, 1, 2, 60, 61, 90, 91, space, space + 1));
        for (int count : counts) {
            calls.add(new Object[] {"fibonacci", text, count});
            for (int from : new LinkedHashSet<>(Arrays.asList(-1, 0, length - 1, length))) {
                calls.add(new Object[] {"repeat", text, from, count});
            }
            for (int seed : new int[] {-1, 0, 9999, 10000}) {
                for (int letters : new int[] {0, 1, 8, 9}) {
                    calls.add(new Object[] {"draw", text, seed, count, letters});
                }
            }
        }
        for (int at : new LinkedHashSet<>(Arrays.asList(-1, 0, length - 1, length, length + 1))) {
            calls.add(new Object[] {"remove", text, at});
            for (char letter : "`ahi?0".toCharArray()) {
                calls.add(new Object[] {"insert", text, at, letter});
                calls.add(new Object[] {"append", text, letter});
            }
        }
    }

    /** Asked ahead of the change and behind it, so that an index that was made must not outlive its texts. */
    private void edit(String call, Object... arguments) {
        renew();
        askShortly();
        compare(call, arguments);
        askShortly();
        compare("undo");
        askShortly();
        compare("restore", 0);
        askShortly();
        compare("snapshot");
    }

    private void askShortly() {
        for (String asked : new String[] {"texts", "whole", "print", "count"}) {
            compare(asked);
        }
        // The plain burrow takes long for these in a long whole.
        if (plain.number("whole") <= 30 && burrow.number("whole") <= 30) {
            for (String asked : new String[] {"nodes", "rules", "isSound"}) {
                compare(asked);
            }
            compare("phrases", '7');
            compare("phrases", '8');
            compare("ones", 3, 1);
        }
    }
}
