import java.util.function.Consumer;

/** A state at which edges are looked at; calls alone make it, of the class's burrow and of the plain one. */
final class State {
    static final State NONE = new State("a new object", calls -> { });

    /** No texts, but all that can be there besides: a pattern, samples, a snapshot, and no change to undo. */
    static final State EMPTIED = new State("no texts any more", calls -> calls
            .with("newText").with("append", 0, 'a').with("snapshot").with("undo").with("undo")
            .with("setSample", 7).with("sign", 'a'));

    /**
     * The whole "ab0c12d3ef4ghh5", of 15 signs. The places of its ranks are 2 4 5 7 10 14 0 1 3 6 8 9 11 13 12, its
     * turned text is bc1dfh5a023e4hg.
     */
    static final State SIX = of("ab", "c", "", "d", "ef", "ghh").and("setSample", 5).and("snapshot");

    /**
     * The whole "abaab0ba1". The places of its ranks are 5 8 7 2 3 0 4 6 1, its turned text is babba1a0a, what is
     * common is 0 0 0 1 1 2 0 1 2.
     */
    static final State HAND = of("abaab", "ba").and("snapshot").and("append", 1, 'h').and("snapshot").and("undo");

    final String name;
    private final Consumer<Calls> made;

    private State(String name, Consumer<Calls> made) {
        this.name = name;
        this.made = made;
    }

    static State of(String... texts) {
        return new State(texts.length + " as " + String.join(",", texts), calls -> {
            for (int text = 0; text < texts.length; text++) {
                calls.with("newText");
                for (char letter : texts[text].toCharArray()) {
                    calls.with("append", text, letter);
                }
            }
        });
    }

    /** So many texts, all but the first one empty; the latest changes are small ones, more than can be undone. */
    static State sized(int texts, int whole) {
        return new State(texts + " texts, " + whole + " signs", calls -> {
            for (int text = 0; text < texts; text++) {
                calls.with("newText");
            }
            int letters = whole - texts;
            int few = Math.min(letters, 25);
            for (int left = letters - few; left > 0; left -= Math.min(left, 60)) {
                calls.with("draw", 0, left, Math.min(left, 60), 3);
            }
            for (int i = 0; i < few; i++) {
                calls.with("append", 0, (char) ('a' + i * i % 7 % 4));
            }
        });
    }

    /**
     * One text of so many a. The rank r has the place that is r ahead of the last one; the turned text has all a, and
     * the end behind them.
     */
    static State like(int letters) {
        return new State(letters + " letters a", calls -> {
            calls.with("newText");
            for (int left = letters; left > 0; left -= Math.min(left, 60)) {
                calls.with("draw", 0, 0, Math.min(left, 60), 1);
            }
        });
    }

    State and(String call, Object... arguments) {
        String told = name + " " + call + (arguments.length > 0 ? java.util.List.of(arguments) : "");
        return new State(told, calls -> {
            made.accept(calls);
            calls.with(call, arguments);
        });
    }

    State times(int often, String call, Object... arguments) {
        State state = this;
        for (int i = 0; i < often; i++) {
            state = state.and(call, arguments);
        }
        return state;
    }

    /** With this pattern instead of the one that was there. */
    State looking(String pattern) {
        return new State(name + " pattern " + pattern, calls -> {
            made.accept(calls);
            calls.with("wipe");
            for (char sign : pattern.toCharArray()) {
                calls.with("sign", sign);
            }
        });
    }

    Calls burrow() {
        return on(new TextBurrow());
    }

    Calls plain() {
        return on(new PlainBurrow());
    }

    private Calls on(Object burrow) {
        Calls calls = new Calls(burrow);
        made.accept(calls);
        return calls;
    }
}
