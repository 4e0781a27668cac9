/** The promises 17 to 30 at their edges. */
final class OrderEdges {
    private static final State ONE = State.of("");
    private static final State TWO = State.of("a");
    private static final State LIKE = State.like(159);

    private OrderEdges() {
    }

    static void test() {
        orders();
        samples();
        rows();
        ranks();
        selects();
        quantiles();
        belows();
        mosts();
    }

    /** At the first and at the last rank or place, in wholes of 0, 1, 2, 9, 15 and 160 signs. */
    private static void ends(String call, Object... dues) {
        State[] states = {ONE, TWO, State.HAND, State.SIX, LIKE};
        int[] lasts = {0, 1, 8, 14, 159};
        Edges.none(State.NONE, call, Edges.with(0), 0, Edges.BOUNDS);
        Edges.none(State.EMPTIED, call, Edges.with(0), 0, Edges.BOUNDS);
        for (int i = 0; i < states.length; i++) {
            Edges.range(states[i], call, Edges.with(0), 0, 0, dues[2 * i], lasts[i], dues[2 * i + 1], Edges.BOUNDS);
        }
    }

    private static void orders() {
        ends("suffix", 0, 0, 1, 0, 5, 1, 2, 12, 159, 0);
        ends("rankOf", 0, 0, 1, 0, 5, 1, 6, 5, 159, 0);
        ends("turned", '0', '0', 'a', '0', 'b', 'a', 'b', 'g', 'a', '0');
        ends("common", 0, 0, 0, 0, 0, 2, 0, 1, 0, 158);
        ends("commonAnew", 0, 0, 0, 0, 0, 2, 0, 1, 0, 158);
        ends("back", 0, 0, 1, 0, 6, 5, 7, 12, 1, 0);
        // The place 0 has the rank 5, 6 and 159; ahead of it is the last sign of the whole.
        Edges.taken(State.HAND, '1', "turned", 5);
        Edges.taken(State.SIX, '5', "turned", 6);
        Edges.taken(State.HAND, 1, "back", 5);
        Edges.taken(State.SIX, 5, "back", 6);
        // Ends are not alike, so that nothing is common to those of empty texts.
        Edges.taken(State.of("", "", ""), 0, "common", 2);
        Edges.taken(State.of("aa", "aa"), 2, "common", 5);
        Edges.taken(State.of("aa", "aa"), 2, "commonAnew", 5);
        Edges.taken(LIKE, 0, "common", 1);
        Edges.taken(LIKE, 1, "commonAnew", 2);
    }

    private static void samples() {
        // Of SIX, multiples of 5 count, of the others multiples of 4.
        ends("walk", 0, 0, 1, 0, 1, 1, 2, 2, 3, 0);
        Edges.range(State.HAND, "setSample", Edges.with(0), 0, 1, 4, 16, 4, Edges.ARGUMENT);
        Edges.range(State.EMPTIED, "setSample", Edges.with(0), 0, 1, 7, 16, 7, Edges.ARGUMENT);
        Edges.range(LIKE.and("setSample", 16), "setSample", Edges.with(0), 0, 1, 16, 16, 16, Edges.ARGUMENT);
        Edges.taken(LIKE.and("setSample", 16), 15, "walk", 0);
        Edges.taken(LIKE.and("setSample", 16), 0, "walk", 15);
        Edges.taken(LIKE.and("setSample", 16), 15, "walk", 16);
        Edges.taken(LIKE.and("setSample", 1), 0, "walk", 0);
        Edges.taken(State.HAND.and("setSample", 16), 8, "walk", 1);
    }

    private static void rows() {
        Edges.range(State.NONE, "ones", Edges.with(0, 0), 0, 0, 0, 3, 0, Edges.BOUNDS);
        Edges.range(State.NONE, "ones", Edges.with(0, 0), 1, 0, 0, 0, 0, Edges.BOUNDS);
        Edges.range(State.HAND, "ones", Edges.with(0, 9), 0, 0, 0, 3, 4, Edges.BOUNDS);
        for (int row = 0; row < 4; row++) {
            // SIX has each of the codes 0 to 12 once, and 13 twice.
            Edges.range(State.SIX, "ones", Edges.with(row, 0), 1, 0, 0, 15, new int[] {7, 7, 6, 8}[row], Edges.BOUNDS);
            Edges.range(LIKE, "ones", Edges.with(row, 0), 1, 0, 0, 160, new int[] {0, 159, 159, 0}[row], Edges.BOUNDS);
        }
        Edges.refused(State.HAND, Edges.BOUNDS, "ones", -1, -1);
        Edges.refused(State.HAND, Edges.BOUNDS, "ones", 4, 10);
        blocks();
    }

    /** Wholes that end just ahead of a block's first place, at it, and behind it. */
    private static void blocks() {
        for (int size : new int[] {15, 16, 17, 31, 32, 33, 159, 160}) {
            State state = State.like(size - 1);
            for (int to : new int[] {1, 14, 15, 16, 17, 31, 32, 33, 143, 144, 145, 158, 159, 160}) {
                if (to <= size) {
                    // The 1s of 4 lie as in the turned text; behind them, the end comes first.
                    Edges.taken(state, Math.min(to, size - 1), "ones", 1, to);
                    Edges.taken(state, to - 1, "ones", 2, to);
                    Edges.taken(state, 0, "ones", 0, to);
                    Edges.taken(state, 0, "ones", 3, to);
                    Edges.taken(state, Math.min(to, size - 1), "rank", 6, to);
                    Edges.taken(state, to == size ? 1 : 0, "rank", 0, to);
                } else {
                    Edges.refused(state, Edges.BOUNDS, "ones", 1, to);
                }
            }
            Edges.taken(state, size - 2, "select", 6, size - 1);
            Edges.taken(state, size - 1, "select", 0, 1);
            Edges.taken(state, 6, "quantile", 0, size, 1);
            Edges.taken(state, size, "below", 0, size, 7);
        }
    }

    private static void ranks() {
        Edges.range(State.SIX, "rank", Edges.with(0, 15), 0, 0, 1, 13, 2, Edges.ARGUMENT);
        Edges.range(State.SIX, "rank", Edges.with(13, 0), 1, 0, 0, 15, 2, Edges.BOUNDS);
        Edges.range(State.NONE, "rank", Edges.with(0, 0), 0, 0, 0, 13, 0, Edges.ARGUMENT);
        Edges.range(State.NONE, "rank", Edges.with(6, 0), 1, 0, 0, 0, 0, Edges.BOUNDS);
        Edges.range(ONE, "rank", Edges.with(0, 0), 1, 0, 0, 1, 1, Edges.BOUNDS);
        Edges.range(LIKE, "rank", Edges.with(6, 0), 1, 0, 0, 160, 159, Edges.BOUNDS);
        Edges.taken(State.SIX, 0, "rank", 5, 6);
        Edges.taken(State.SIX, 1, "rank", 5, 7);
        Edges.first(State.SIX, Edges.ARGUMENT, Edges.BOUNDS, "rank", 14, 16);
        Edges.first(State.SIX, Edges.ARGUMENT, Edges.BOUNDS, "rank", -1, -1);
    }

    private static void selects() {
        Edges.range(State.SIX, "select", Edges.with(0, 1), 0, 0, 8, 13, 5, Edges.ARGUMENT);
        Edges.range(State.SIX, "select", Edges.with(13, 0), 1, 1, 5, 2, 13, Edges.ELEMENT);
        Edges.range(State.SIX, "select", Edges.with(5, 0), 1, 1, 6, 1, 6, Edges.ELEMENT);
        Edges.range(LIKE, "select", Edges.with(6, 0), 1, 1, 0, 159, 158, Edges.ELEMENT);
        Edges.range(ONE, "select", Edges.with(0, 0), 1, 1, 0, 1, 0, Edges.ELEMENT);
        for (int code = 0; code < 14; code++) {
            Edges.none(State.NONE, "select", Edges.with(code, 1), 1, Edges.ELEMENT);
        }
        Edges.none(LIKE, "select", Edges.with(13, 1), 1, Edges.ELEMENT);
        Edges.none(LIKE, "select", Edges.with(1, 1), 1, Edges.ELEMENT);
        Edges.first(State.SIX, Edges.ARGUMENT, Edges.ELEMENT, "select", 14, 0);
        Edges.first(State.SIX, Edges.ARGUMENT, Edges.ELEMENT, "select", -1, 9);
        Edges.refused(State.NONE, Edges.ARGUMENT, "select", 14, 1);
    }

    /** No such ranks, for a call whose two first arguments they are, in a whole of so many signs. */
    private static void ranges(State state, int size, String call, Object... more) {
        int[][] nones = {{-1, 0}, {-1, -1}, {0, size + 1}, {size + 1, size + 1}, {size, size - 1}, {1, 0}, {size + 1, size},
            {-1, size}, {Integer.MIN_VALUE, Integer.MAX_VALUE}, {Integer.MAX_VALUE, Integer.MIN_VALUE},
            {0, Integer.MAX_VALUE}, {Integer.MIN_VALUE, size}, {0, Integer.MIN_VALUE}};
        for (int[] none : nones) {
            Object[] arguments = new Object[2 + more.length];
            arguments[0] = none[0];
            arguments[1] = none[1];
            System.arraycopy(more, 0, arguments, 2, more.length);
            Edges.refused(state, Edges.BOUNDS, call, arguments);
        }
    }

    private static void quantiles() {
        ranges(State.NONE, 0, "quantile", 0);
        ranges(State.HAND, 9, "quantile", 0);
        ranges(LIKE, 160, "quantile", 0);
        Edges.range(State.SIX, "quantile", Edges.with(0, 15, 0), 2, 0, 0, 14, 13, Edges.ELEMENT);
        Edges.range(State.SIX, "quantile", Edges.with(3, 6, 0), 2, 0, 9, 2, 13, Edges.ELEMENT);
        Edges.range(State.SIX, "quantile", Edges.with(14, 15, 0), 2, 0, 12, 0, 12, Edges.ELEMENT);
        Edges.range(LIKE, "quantile", Edges.with(0, 160, 0), 2, 0, 0, 159, 6, Edges.ELEMENT);
        Edges.range(LIKE, "quantile", Edges.with(0, 159, 0), 2, 0, 6, 158, 6, Edges.ELEMENT);
        Edges.none(State.NONE, "quantile", Edges.with(0, 0, 0), 2, Edges.ELEMENT);
        Edges.none(State.HAND, "quantile", Edges.with(0, 0, 0), 2, Edges.ELEMENT);
        Edges.none(State.HAND, "quantile", Edges.with(9, 9, 0), 2, Edges.ELEMENT);
        Edges.first(State.HAND, Edges.BOUNDS, Edges.ELEMENT, "quantile", 3, 2, 0);
        Edges.first(State.HAND, Edges.BOUNDS, Edges.ELEMENT, "quantile", 0, 10, 10);
        Edges.first(State.HAND, Edges.BOUNDS, Edges.ELEMENT, "quantile", -1, 9, -1);
    }

    private static void belows() {
        ranges(State.NONE, 0, "below", 0);
        ranges(State.HAND, 9, "below", 14);
        ranges(LIKE, 160, "below", 7);
        Edges.range(State.SIX, "below", Edges.with(0, 15, 0), 2, 0, 0, 14, 15, Edges.ARGUMENT);
        Edges.range(State.NONE, "below", Edges.with(0, 0, 0), 2, 0, 0, 14, 0, Edges.ARGUMENT);
        Edges.range(State.SIX, "below", Edges.with(15, 15, 0), 2, 0, 0, 14, 0, Edges.ARGUMENT);
        Edges.taken(State.SIX, 13, "below", 0, 15, 13);
        Edges.taken(State.SIX, 6, "below", 0, 15, 6);
        Edges.taken(State.SIX, 5, "below", 0, 15, 5);
        Edges.taken(State.SIX, 1, "below", 0, 15, 1);
        Edges.taken(LIKE, 1, "below", 0, 160, 6);
        Edges.taken(LIKE, 160, "below", 0, 160, 7);
        Edges.first(State.HAND, Edges.BOUNDS, Edges.ARGUMENT, "below", 0, 10, 15);
        Edges.first(State.HAND, Edges.BOUNDS, Edges.ARGUMENT, "below", 3, 2, -1);
    }

    private static void mosts() {
        ranges(State.NONE, 0, "most");
        ranges(State.HAND, 9, "most");
        ranges(LIKE, 160, "most");
        Edges.taken(ONE, 0, "most", 0, 1);
        Edges.taken(LIKE, 6, "most", 0, 160);
        Edges.taken(LIKE, 0, "most", 159, 160);
        Edges.refused(LIKE, Edges.ELEMENT, "most", 158, 160);
        Edges.taken(LIKE, 6, "most", 157, 160);
        Edges.refused(LIKE, Edges.ELEMENT, "most", 160, 160);
        Edges.refused(State.NONE, Edges.ELEMENT, "most", 0, 0);
        // babba1a0a: of babb more than half are b, of babba1 just half.
        Edges.taken(State.HAND, 7, "most", 0, 4);
        Edges.taken(State.HAND, 7, "most", 0, 5);
        Edges.refused(State.HAND, Edges.ELEMENT, "most", 0, 6);
        Edges.refused(State.HAND, Edges.ELEMENT, "most", 0, 2);
        Edges.refused(State.SIX, Edges.ELEMENT, "most", 0, 15);
        Edges.first(State.HAND, Edges.BOUNDS, Edges.ELEMENT, "most", 9, 8);
        Edges.first(State.NONE, Edges.BOUNDS, Edges.ELEMENT, "most", 1, 0);
        Edges.first(State.HAND, Edges.BOUNDS, Edges.ELEMENT, "most", 0, 10);
    }
}
