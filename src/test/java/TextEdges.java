/** The promises 2 to 16 at their edges. */
final class TextEdges {
    private static final String LETTERS = "abcdefgh";

    private TextEdges() {
    }

    static void test() {
        makes();
        puts();
        repeats();
        draws();
        words();
        putsIn();
        takesOut();
        snapshots();
        reads();
    }

    private static void makes() {
        for (int texts = 0; texts < 6; texts++) {
            Edges.taken(State.NONE.times(texts, "newText"), texts, "newText");
        }
        Edges.refused(State.NONE.times(6, "newText"), Edges.STATE, "newText");
        Edges.refused(State.SIX, Edges.STATE, "newText");
        Edges.taken(State.EMPTIED, 0, "newText");
        Edges.taken(State.sized(1, 159), 1, "newText");
        Edges.refused(State.sized(1, 160), Edges.STATE, "newText");
        Edges.taken(State.sized(5, 159), 5, "newText");
        Edges.refused(State.sized(5, 160), Edges.STATE, "newText");
        Edges.refused(State.sized(6, 159), Edges.STATE, "newText");
        Edges.refused(State.sized(6, 160), Edges.STATE, "newText");
    }

    private static void puts() {
        Edges.texts("append", Edges.with(0, 'a'), 3, 4);
        Edges.characters(State.HAND, "append", Edges.with(1, 'a'), 1, LETTERS, Edges.with(3), Edges.ARGUMENT);
        Edges.taken(State.of(""), 1, "append", 0, 'h');
        isFull("append", 0, 'a');
        Edges.taken(State.sized(1, 159), 159, "append", 0, 'a');
        Edges.taken(State.sized(6, 159), 1, "append", 5, 'h');
        Edges.first(State.HAND, Edges.BOUNDS, Edges.ARGUMENT, "append", 2, 'i');
        Edges.first(State.sized(1, 160), Edges.BOUNDS, Edges.STATE, "append", 1, 'a');
        Edges.first(State.sized(1, 160), Edges.ARGUMENT, Edges.STATE, "append", 0, 'i');
        Edges.refused(State.sized(6, 160), Edges.BOUNDS, "append", 6, '?');
    }

    /** A call that would put one letter more into a whole of 160, of one text and of six. */
    private static void isFull(String call, Object... arguments) {
        Edges.refused(State.sized(1, 160), Edges.STATE, call, arguments);
        Edges.refused(State.sized(6, 160), Edges.STATE, call, arguments);
        Edges.refused(State.sized(1, 160).and("snapshot").and("sign", 'b'), Edges.STATE, call, arguments);
    }

    private static void repeats() {
        Edges.texts("repeat", Edges.with(0, 0, 1), 3, 4);
        Edges.range(State.HAND, "repeat", Edges.with(0, 0, 3), 1, 0, 8, 4, 8, Edges.ARGUMENT);
        Edges.range(State.HAND, "repeat", Edges.with(1, 0, 3), 1, 0, 5, 1, 5, Edges.ARGUMENT);
        Edges.range(State.HAND, "repeat", Edges.with(0, 2, 0), 2, 1, 6, 60, 65, Edges.ARGUMENT);
        Edges.none(State.of("", "a"), "repeat", Edges.with(0, 0, 1), 1, Edges.ARGUMENT);
        isFull("repeat", 0, 0, 1);
        Edges.taken(State.sized(1, 159), 159, "repeat", 0, 157, 1);
        Edges.refused(State.sized(1, 159), Edges.STATE, "repeat", 0, 157, 2);
        Edges.taken(State.sized(1, 100), 159, "repeat", 0, 98, 60);
        Edges.refused(State.sized(1, 101), Edges.STATE, "repeat", 0, 98, 60);
        Edges.first(State.HAND, Edges.BOUNDS, Edges.ARGUMENT, "repeat", 2, -1, 1);
        Edges.refused(State.HAND, Edges.BOUNDS, "repeat", -1, 0, 61);
        Edges.first(State.sized(1, 160), Edges.BOUNDS, Edges.STATE, "repeat", 1, 0, 1);
        Edges.first(State.sized(1, 160), Edges.ARGUMENT, Edges.STATE, "repeat", 0, 159, 1);
        Edges.refused(State.sized(1, 160), Edges.ARGUMENT, "repeat", 0, -1, 1);
        Edges.refused(State.sized(1, 160), Edges.ARGUMENT, "repeat", 0, 0, 61);
        Edges.refused(State.sized(1, 101), Edges.ARGUMENT, "repeat", 0, 0, 61);
    }

    private static void draws() {
        Edges.texts("draw", Edges.with(0, 0, 1, 1), 3, 4);
        Edges.range(State.HAND, "draw", Edges.with(1, 0, 5, 8), 1, 0, 7, 9999, 7, Edges.ARGUMENT);
        Edges.range(State.HAND, "draw", Edges.with(1, 7, 0, 3), 2, 1, 3, 60, 62, Edges.ARGUMENT);
        Edges.range(State.HAND, "draw", Edges.with(0, 7, 9, 0), 3, 1, 14, 8, 14, Edges.ARGUMENT);
        isFull("draw", 0, 0, 1, 1);
        Edges.taken(State.sized(1, 100), 159, "draw", 0, 5, 60, 8);
        Edges.refused(State.sized(1, 101), Edges.STATE, "draw", 0, 5, 60, 8);
        for (Object[] wrong : new Object[][] {{-1, 1, 1}, {10000, 1, 1}, {0, 61, 1}, {0, 1, 0}, {0, 1, 9}}) {
            Edges.first(State.HAND, Edges.BOUNDS, Edges.ARGUMENT, "draw", 2, wrong[0], wrong[1], wrong[2]);
            Edges.first(State.sized(1, 160), Edges.ARGUMENT, Edges.STATE, "draw", 0, wrong[0], wrong[1], wrong[2]);
        }
        Edges.first(State.sized(1, 160), Edges.BOUNDS, Edges.STATE, "draw", 1, 0, 1, 1);
    }

    private static void words() {
        Edges.texts("fibonacci", Edges.with(0, 1), 3, 4);
        Edges.range(State.HAND, "fibonacci", Edges.with(1, 0), 1, 1, 3, 90, 92, Edges.ARGUMENT);
        isFull("fibonacci", 0, 1);
        Edges.taken(State.sized(1, 70), 159, "fibonacci", 0, 90);
        Edges.refused(State.sized(1, 71), Edges.STATE, "fibonacci", 0, 90);
        Edges.first(State.HAND, Edges.BOUNDS, Edges.ARGUMENT, "fibonacci", 2, 0);
        Edges.refused(State.HAND, Edges.BOUNDS, "fibonacci", -1, 91);
        Edges.first(State.sized(1, 160), Edges.BOUNDS, Edges.STATE, "fibonacci", 1, 1);
        Edges.first(State.sized(1, 160), Edges.ARGUMENT, Edges.STATE, "fibonacci", 0, 91);
    }

    private static void putsIn() {
        Edges.texts("insert", Edges.with(0, 0, 'a'), 3, 4);
        Edges.range(State.HAND, "insert", Edges.with(0, 0, 'c'), 1, 0, 6, 5, 6, Edges.ARGUMENT);
        Edges.range(State.HAND, "insert", Edges.with(1, 0, 'c'), 1, 0, 3, 2, 3, Edges.ARGUMENT);
        Edges.range(State.of("", "a"), "insert", Edges.with(0, 0, 'c'), 1, 0, 1, 0, 1, Edges.ARGUMENT);
        Edges.characters(State.HAND, "insert", Edges.with(0, 2, 'a'), 2, LETTERS, Edges.with(6), Edges.ARGUMENT);
        isFull("insert", 0, 0, 'a');
        Edges.taken(State.sized(1, 159), 159, "insert", 0, 0, 'h');
        Edges.taken(State.sized(1, 159), 159, "insert", 0, 158, 'h');
        Edges.refused(State.sized(1, 159), Edges.ARGUMENT, "insert", 0, 159, 'h');
        Edges.first(State.HAND, Edges.BOUNDS, Edges.ARGUMENT, "insert", 2, -1, 'a');
        Edges.refused(State.HAND, Edges.BOUNDS, "insert", -1, 0, 'i');
        Edges.first(State.sized(1, 160), Edges.BOUNDS, Edges.STATE, "insert", 1, 0, 'a');
        Edges.first(State.sized(1, 160), Edges.ARGUMENT, Edges.STATE, "insert", 0, 160, 'a');
        Edges.refused(State.sized(1, 160), Edges.ARGUMENT, "insert", 0, 0, 'i');
    }

    private static void takesOut() {
        Edges.texts("remove", Edges.with(0, 0), 'a', 'g');
        Edges.range(State.HAND, "remove", Edges.with(0, 0), 1, 0, 'a', 4, 'b', Edges.ARGUMENT);
        Edges.range(State.HAND, "remove", Edges.with(1, 0), 1, 0, 'b', 1, 'a', Edges.ARGUMENT);
        Edges.none(State.of("", "a"), "remove", Edges.with(0, 0), 1, Edges.ARGUMENT);
        Edges.range(State.like(159), "remove", Edges.with(0, 0), 1, 0, 'a', 158, 'a', Edges.ARGUMENT);
        Edges.first(State.HAND, Edges.BOUNDS, Edges.ARGUMENT, "remove", 2, -1);
        Edges.refused(State.NONE, Edges.BOUNDS, "remove", 0, 0);
    }

    private static void snapshots() {
        for (int i = 0; i < 8; i++) {
            Edges.taken(State.of("a").times(i, "snapshot"), i, "snapshot");
        }
        Edges.refused(State.of("a").times(8, "snapshot"), Edges.STATE, "snapshot");
        Edges.refused(State.of("a").times(8, "snapshot").and("append", 0, 'b'), Edges.STATE, "snapshot");
        Edges.none(State.of("a"), "restore", Edges.with(0), 0, Edges.BOUNDS);
        Edges.none(State.NONE, "restore", Edges.with(0), 0, Edges.BOUNDS);
        Edges.range(State.EMPTIED, "restore", Edges.with(0), 0, 0, 1, 0, 1, Edges.BOUNDS);
        Edges.range(State.HAND, "restore", Edges.with(0), 0, 0, 2, 1, 2, Edges.BOUNDS);
        State eight = State.NONE.and("snapshot").and("newText").times(6, "snapshot").and("newText").and("snapshot");
        Edges.range(eight, "restore", Edges.with(0), 0, 0, 0, 7, 2, Edges.BOUNDS);
        Edges.taken(State.sized(6, 160).and("snapshot").and("undo"), 6, "restore", 0);
    }

    private static void reads() {
        Edges.taken(State.NONE, 0, "texts");
        Edges.taken(State.SIX, 6, "texts");
        Edges.texts("length", Edges.with(0), 2, 3);
        Edges.taken(State.sized(1, 160), 159, "length", 0);
        Edges.taken(State.sized(6, 160), 0, "length", 5);
        Edges.texts("letterAt", Edges.with(0, 0), 'a', 'g');
        Edges.range(State.HAND, "letterAt", Edges.with(0, 0), 1, 0, 'a', 4, 'b', Edges.ELEMENT);
        Edges.range(State.HAND, "letterAt", Edges.with(1, 0), 1, 0, 'b', 1, 'a', Edges.ELEMENT);
        Edges.range(State.like(159), "letterAt", Edges.with(0, 0), 1, 0, 'a', 158, 'a', Edges.ELEMENT);
        Edges.none(State.of("", "a"), "letterAt", Edges.with(0, 0), 1, Edges.ELEMENT);
        Edges.first(State.HAND, Edges.BOUNDS, Edges.ELEMENT, "letterAt", 2, -1);
        Edges.refused(State.HAND, Edges.BOUNDS, "letterAt", -1, 5);
        Edges.taken(State.NONE, 0, "whole");
        Edges.taken(State.of(""), 1, "whole");
        Edges.taken(State.of("a"), 2, "whole");
        Edges.taken(State.SIX, 15, "whole");
        Edges.taken(State.sized(6, 160), 160, "whole");
        Edges.none(State.NONE, "rebuilt", Edges.with(0), 0, Edges.BOUNDS);
        Edges.none(State.EMPTIED, "rebuilt", Edges.with(0), 0, Edges.BOUNDS);
        Edges.range(State.of(""), "rebuilt", Edges.with(0), 0, 0, '0', 0, '0', Edges.BOUNDS);
        Edges.range(State.of("h"), "rebuilt", Edges.with(0), 0, 0, 'h', 1, '0', Edges.BOUNDS);
        Edges.range(State.HAND, "rebuilt", Edges.with(0), 0, 0, 'a', 8, '1', Edges.BOUNDS);
        Edges.range(State.SIX, "rebuilt", Edges.with(0), 0, 0, 'a', 14, '5', Edges.BOUNDS);
        Edges.range(State.sized(6, 160), "rebuilt", Edges.with(0), 0, 0, 'c', 159, '5', Edges.BOUNDS);
    }
}
