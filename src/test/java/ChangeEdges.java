/** The promises 9 to 11 at their edges, and what is a change and what is none. */
final class ChangeEdges {
    /** One text of 25 a, each put there by a change of its own. */
    private static final State MANY = State.of("").times(25, "append", 0, 'a');

    private ChangeEdges() {
    }

    static void test() {
        undoes();
        kinds();
        undoneAll(20);
        undoneAll(21);
        undoneAgain();
        snapshots();
    }

    private static void undoes() {
        Edges.refused(State.NONE, Edges.ELEMENT, "undo");
        Edges.refused(State.EMPTIED, Edges.ELEMENT, "undo");
        Edges.refused(State.NONE.and("snapshot").and("setSample", 3).and("sign", 'a'), Edges.ELEMENT, "undo");
        Edges.taken(State.of(""), 0, "undo");
        Edges.taken(State.SIX, 14, "undo");
        Edges.taken(MANY, 19, "undo");
        Edges.taken(MANY.times(19, "undo"), 0, "undo");
        Edges.refused(MANY.times(20, "undo"), Edges.ELEMENT, "undo");
        Edges.taken(State.of("").times(18, "append", 0, 'a'), 18, "undo");
        Edges.taken(State.of("").times(19, "append", 0, 'a'), 19, "undo");
        Edges.taken(State.of("").times(20, "append", 0, 'a'), 19, "undo");
        Edges.refused(State.of("").and("undo"), Edges.ELEMENT, "undo");
        Edges.taken(State.sized(6, 160), 19, "undo");
    }

    /** Each of these calls is one change, however many letters it puts there, and so undo answers what was kept. */
    private static void kinds() {
        State base = State.of("ab").and("snapshot");
        Edges.taken(base.and("newText"), 3, "undo");
        Edges.taken(base.and("append", 0, 'c'), 3, "undo");
        Edges.taken(base.and("repeat", 0, 0, 60), 3, "undo");
        Edges.taken(base.and("draw", 0, 1, 60, 8), 3, "undo");
        Edges.taken(base.and("fibonacci", 0, 90), 3, "undo");
        Edges.taken(base.and("insert", 0, 0, 'c'), 3, "undo");
        Edges.taken(base.and("remove", 0, 0), 3, "undo");
        Edges.taken(base.and("restore", 0), 3, "undo");
        for (State none : new State[] {base, base.and("snapshot"), base.and("setSample", 9), base.and("sign", 'a'),
            base.and("wipe"), base.and("append", 0, 'c').and("undo"), base.looking("a").and("count"), base.and("isSound")}) {
            Edges.taken(none, 2, "undo");
        }
        for (Object[] wrong : new Object[][] {{"append", 0, 'i'}, {"repeat", 0, 2, 1}, {"draw", 0, 0, 61, 1},
            {"fibonacci", 0, 91}, {"insert", 0, 3, 'a'}, {"remove", 0, 2}, {"restore", 1}}) {
            Calls calls = base.burrow();
            calls.answer((String) wrong[0], java.util.Arrays.copyOfRange(wrong, 1, wrong.length));
            Due.isEqual("undo behind a refused " + wrong[0], calls.answer("undo"), 2);
        }
    }

    /** A text is made, and then so many changes: the oldest one that is kept is the last that can be undone. */
    private static void undoneAll(int changes) {
        Calls calls = State.of("").times(changes - 1, "append", 0, 'a').burrow();
        for (int kept = 19; kept >= 0; kept--) {
            Due.isEqual("undo of " + changes, calls.answer("undo"), kept);
            Due.isEqual("texts behind an undo of " + changes, calls.answer("texts"), kept > 0 || changes > 20 ? 1 : 0);
            Due.isEqual("whole behind an undo of " + changes, calls.answer("whole"), kept + changes - 20);
        }
        Due.isEqual("one undo more", calls.answer("undo"), Edges.ELEMENT);
        Due.isEqual("left by one undo more", calls.answer("whole"), changes - 20);
    }

    /** Changes behind undone ones take their place, and the ring of those that are kept goes on from there. */
    private static void undoneAgain() {
        Calls calls = MANY.burrow();
        for (int round = 0; round < 5; round++) {
            for (int i = 0; i < 7; i++) {
                calls.with("undo");
            }
            Due.isEqual("behind 7 undone", calls.answer("length", 0), 18);
            for (int i = 0; i < 7; i++) {
                calls.with("append", 0, 'b');
            }
            Due.isEqual("behind 7 others", calls.answer("length", 0), 25);
        }
        Due.isEqual("the last a", calls.answer("letterAt", 0, 17), 'a');
        Due.isEqual("the first b", calls.answer("letterAt", 0, 18), 'b');
        for (int kept = 19; kept >= 0; kept--) {
            Due.isEqual("undo of others", calls.answer("undo"), kept);
            Due.isEqual("length behind others", calls.answer("length", 0), 5 + kept);
        }
        Due.isEqual("no more", calls.answer("undo"), Edges.ELEMENT);
    }

    /** Eight snapshots of eight lengths, which stay, in whatever order they are restored. */
    private static void snapshots() {
        Calls calls = State.of("").burrow();
        for (int i = 0; i < 8; i++) {
            Due.isEqual("snapshot " + i, calls.answer("snapshot"), i);
            calls.with("append", 0, (char) ('a' + i));
        }
        Due.isEqual("a ninth snapshot", calls.answer("snapshot"), Edges.STATE);
        for (int i : new int[] {3, 7, 0, 0, 5, 1, 2, 6, 4, 7, 3}) {
            Due.isEqual("restore " + i, calls.answer("restore", i), 1);
            Due.isEqual("restored " + i, calls.answer("length", 0), i);
            if (i > 0) {
                Due.isEqual("the last letter of " + i, calls.answer("letterAt", 0, i - 1), (char) ('a' + i - 1));
            }
            calls.with("append", 0, 'h');
        }
    }
}
