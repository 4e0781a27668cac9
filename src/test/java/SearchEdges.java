/** The promises 31 to 42 at their edges. */
final class SearchEdges {
    private static final String NINETEEN = "aaaaaaaaaaaaaaaaaaa";
    private static final String TWENTY = NINETEEN + "a";
    private static final State LIKE = State.like(159);
    /** Each call that asks for a pattern, with arguments that are taken. */
    private static final Object[][] ASKED = {{"count"}, {"countAnew"}, {"at", 0}, {"firstRank"}, {"matching", 0},
        {"near", 0}, {"nearAnew", 3}, {"inText", 0}, {"listed", 0}, {"top"}};

    private SearchEdges() {
    }

    static void test() {
        signs();
        keepsPattern();
        empties();
        counts();
        places();
        firstRanks();
        matchings();
        nears();
        inTexts();
        tops();
    }

    private static void signs() {
        Edges.characters(State.HAND, "sign", Edges.with('a'), 0, "abcdefgh?", Edges.with(1), Edges.ARGUMENT);
        Edges.characters(State.NONE.looking(NINETEEN), "sign", Edges.with('a'), 0, "abcdefgh?", Edges.with(20),
                Edges.ARGUMENT);
        for (char sign : "ah?".toCharArray()) {
            Edges.refused(LIKE.looking(TWENTY), Edges.STATE, "sign", sign);
            Edges.refused(State.NONE.looking("?" + NINETEEN), Edges.STATE, "sign", sign);
        }
        for (char none : "i`0@\u013f".toCharArray()) {
            Edges.first(LIKE.looking(TWENTY), Edges.ARGUMENT, Edges.STATE, "sign", none);
        }
        Edges.taken(State.NONE, 0, "wipe");
        Edges.taken(State.EMPTIED, 1, "wipe");
        Edges.taken(State.HAND.looking("a?"), 2, "wipe");
        Edges.taken(LIKE.looking(TWENTY), 20, "wipe");
        Edges.taken(LIKE.looking(TWENTY).and("wipe"), 0, "wipe");
        Edges.taken(LIKE.looking(TWENTY).and("wipe"), 1, "sign", 'b');
    }

    /** Behind refused calls each sign is what it was: with another letter there, the text is like the pattern no more. */
    private static void keepsPattern() {
        String pattern = "abcdefgh?bcdefgh?bcd";
        Calls calls = State.of("abcdefghabcdefghabcd").looking(pattern).burrow();
        for (Object[] wrong : new Object[][] {{"sign", 'i'}, {"sign", '`'}, {"sign", 'a'}, {"sign", '?'}, {"at", 1},
            {"at", -1}, {"firstRank"}, {"matching", 0}, {"near", 4}, {"nearAnew", -1}, {"inText", 1}, {"listed", 1},
            {"append", 0, '?'}, {"insert", 0, 21, 'a'}, {"remove", 0, 20}, {"restore", 0}, {"setSample", 0}}) {
            Object got = calls.answer((String) wrong[0], java.util.Arrays.copyOfRange(wrong, 1, wrong.length));
            Due.isEqual(wrong[0] + " of a full pattern is refused", Calls.isException(got), true);
        }
        for (int place = 0; place < 20; place++) {
            char letter = (char) calls.answer("remove", 0, place);
            calls.with("insert", 0, place, letter == 'h' ? 'a' : (char) (letter + 1));
            Due.isEqual("another letter at " + place, calls.answer("count"), pattern.charAt(place) == '?' ? 1 : 0);
            calls.with("undo").with("undo");
            Due.isEqual("the first letter at " + place, calls.answer("count"), 1);
        }
        Due.isEqual("the length of a full pattern", calls.answer("wipe"), 20);
    }

    private static void empties() {
        for (State state : new State[] {State.NONE, State.of(""), State.HAND, State.SIX, LIKE.looking("ab").and("wipe")}) {
            for (Object[] asked : ASKED) {
                Object[] arguments = java.util.Arrays.copyOfRange(asked, 1, asked.length);
                Edges.refused(state, Edges.UNSUPPORTED, (String) asked[0], arguments);
            }
        }
        Edges.first(State.HAND, Edges.UNSUPPORTED, Edges.ELEMENT, "at", -1);
        Edges.first(State.NONE, Edges.UNSUPPORTED, Edges.ELEMENT, "firstRank");
        Edges.first(State.HAND, Edges.UNSUPPORTED, Edges.BOUNDS, "matching", -1);
        Edges.first(State.HAND, Edges.UNSUPPORTED, Edges.ARGUMENT, "near", 4);
        Edges.first(State.HAND, Edges.UNSUPPORTED, Edges.ARGUMENT, "nearAnew", -1);
        Edges.first(State.HAND, Edges.UNSUPPORTED, Edges.BOUNDS, "inText", 2);
        Edges.first(State.HAND, Edges.UNSUPPORTED, Edges.ELEMENT, "listed", -1);
        Edges.first(State.NONE, Edges.UNSUPPORTED, Edges.ELEMENT, "top");
    }

    private static void counted(State state, int due) {
        Edges.taken(state, due, "count");
        Edges.taken(state, due, "countAnew");
        Edges.taken(state, due, "near", 0);
        Edges.taken(state, due, "nearAnew", 0);
        if (due == 0) {
            Edges.none(state, "at", Edges.with(0), 0, Edges.ELEMENT);
            Edges.none(state, "listed", Edges.with(0), 0, Edges.ELEMENT);
            Edges.refused(state, Edges.ELEMENT, "top");
        }
    }

    private static void counts() {
        counted(State.EMPTIED, 0);
        counted(State.NONE.looking("?"), 0);
        counted(State.NONE.looking(TWENTY), 0);
        // An end is like nothing, not even like a '?'.
        counted(State.of("").looking("?"), 0);
        counted(State.of("", "", "").looking("?"), 0);
        counted(State.of("", "", "").looking("??"), 0);
        counted(State.of("a").looking("?"), 1);
        counted(State.of("a").looking("a?"), 0);
        counted(State.of("a").looking("?a"), 0);
        counted(State.of("aa", "aa").looking("a?a"), 0);
        counted(State.of("aa", "aa").looking("a?"), 2);
        counted(LIKE.looking("a"), 159);
        counted(LIKE.looking("?"), 159);
        counted(LIKE.looking("b"), 0);
        counted(LIKE.looking(TWENTY), 140);
        counted(LIKE.looking(NINETEEN + "?"), 140);
        counted(LIKE.looking(NINETEEN + "b"), 0);
        counted(State.of(NINETEEN).looking(NINETEEN), 1);
        counted(State.of(NINETEEN).looking(TWENTY), 0);
        counted(State.of(TWENTY).looking(TWENTY), 1);
        counted(State.of(NINETEEN, "a").looking(TWENTY), 0);
        counted(State.of("b" + TWENTY + "c").looking("????????????????????"), 3);
    }

    private static void places() {
        Edges.range(State.HAND.looking("ab"), "at", Edges.with(0), 0, 0, 0, 1, 3, Edges.ELEMENT);
        Edges.range(State.HAND.looking("?a"), "at", Edges.with(0), 0, 0, 1, 2, 6, Edges.ELEMENT);
        Edges.range(State.SIX.looking("h"), "at", Edges.with(0), 0, 0, 12, 1, 13, Edges.ELEMENT);
        Edges.range(LIKE.looking("a"), "at", Edges.with(0), 0, 0, 0, 158, 158, Edges.ELEMENT);
        Edges.range(LIKE.looking(TWENTY), "at", Edges.with(0), 0, 0, 0, 139, 139, Edges.ELEMENT);
        Edges.range(State.sized(6, 160).looking("?"), "at", Edges.with(0), 0, 0, 0, 153, 153, Edges.ELEMENT);
    }

    private static void firstRanks() {
        Edges.taken(State.HAND.looking("a"), 2, "firstRank");
        Edges.taken(State.HAND.looking("abaab"), 5, "firstRank");
        Edges.taken(State.HAND.looking("baab"), 8, "firstRank");
        Edges.taken(State.SIX.looking("h"), 13, "firstRank");
        Edges.taken(State.SIX.looking("hh"), 14, "firstRank");
        Edges.taken(LIKE.looking("a"), 1, "firstRank");
        Edges.taken(LIKE.looking(TWENTY), 20, "firstRank");
        Edges.refused(State.HAND.looking("aaa"), Edges.ELEMENT, "firstRank");
        Edges.refused(State.HAND.looking("h"), Edges.ELEMENT, "firstRank");
        Edges.refused(State.EMPTIED, Edges.ELEMENT, "firstRank");
        Edges.refused(State.of(NINETEEN).looking(TWENTY), Edges.ELEMENT, "firstRank");
        for (String wild : new String[] {"?", "?a", "a?", NINETEEN + "?", "?" + NINETEEN}) {
            Edges.refused(State.HAND.looking(wild), Edges.UNSUPPORTED, "firstRank");
            Edges.refused(State.HAND.looking(wild), Edges.UNSUPPORTED, "matching", 0);
        }
        Edges.first(State.HAND.looking("c?"), Edges.UNSUPPORTED, Edges.ELEMENT, "firstRank");
        Edges.first(State.NONE.looking("?"), Edges.UNSUPPORTED, Edges.ELEMENT, "firstRank");
    }

    private static void matchings() {
        Edges.range(State.HAND.looking("bab"), "matching", Edges.with(0), 0, 0, 2, 2, 1, Edges.BOUNDS);
        Edges.range(State.HAND.looking("a"), "matching", Edges.with(0), 0, 0, 1, 0, 1, Edges.BOUNDS);
        Edges.range(State.HAND.looking("hb"), "matching", Edges.with(0), 0, 0, 0, 1, 1, Edges.BOUNDS);
        Edges.range(State.EMPTIED, "matching", Edges.with(0), 0, 0, 0, 0, 0, Edges.BOUNDS);
        Edges.range(LIKE.looking(TWENTY), "matching", Edges.with(0), 0, 0, 20, 19, 1, Edges.BOUNDS);
        Edges.range(State.of(NINETEEN).looking(TWENTY), "matching", Edges.with(0), 0, 0, 19, 19, 1, Edges.BOUNDS);
        // The texts "ab" and "ba" have no letters one behind the other but their own.
        Edges.taken(State.of("ab", "ba").looking("abba"), 2, "matching", 0);
        Edges.taken(State.of("ab", "ba").looking("abba"), 1, "matching", 1);
        Edges.taken(State.of("ab", "ba").looking("abba"), 2, "matching", 2);
        Edges.first(State.HAND.looking("a?"), Edges.UNSUPPORTED, Edges.BOUNDS, "matching", 2);
        Edges.first(State.HAND.looking("a?"), Edges.UNSUPPORTED, Edges.BOUNDS, "matching", -1);
    }

    private static void nears() {
        for (String call : new String[] {"near", "nearAnew"}) {
            Edges.range(State.HAND.looking("bab"), call, Edges.with(0), 0, 0, 0, 3, 3, Edges.ARGUMENT);
            Edges.range(State.HAND.looking("?a"), call, Edges.with(0), 0, 0, 3, 3, 5, Edges.ARGUMENT);
            Edges.range(State.EMPTIED, call, Edges.with(0), 0, 0, 0, 3, 0, Edges.ARGUMENT);
            Edges.range(LIKE.looking(TWENTY), call, Edges.with(0), 0, 0, 140, 3, 140, Edges.ARGUMENT);
            // Just so many signs are unlike the letters.
            String[] unlike = {"aaaa", "baaa", "bbaa", "bbba", "bbbb"};
            for (int errors = 0; errors <= 3; errors++) {
                Edges.taken(State.of("aaaaa").looking(unlike[errors]), 2, call, errors);
                Edges.taken(State.of("aaaaa").looking(unlike[errors + 1]), 0, call, errors);
            }
            // There are letters all the same, and nothing is beyond the whole.
            Edges.taken(State.of("a", "a").looking("aa"), 0, call, 3);
            Edges.taken(State.of("aa", "a").looking("cc"), 1, call, 2);
            Edges.taken(State.of("", "", "").looking("a"), 0, call, 3);
            Edges.taken(State.of("", "a", "").looking("h"), 1, call, 1);
            Edges.taken(State.of("aaa").looking("aaaa"), 0, call, 3);
            Edges.taken(State.of("abc").looking("?b?"), 1, call, 0);
            Edges.taken(State.of("abc").looking("?c?"), 0, call, 0);
            Edges.taken(State.of("abc").looking("?c?"), 1, call, 1);
        }
    }

    private static void inTexts() {
        Edges.range(State.SIX.looking("h"), "inText", Edges.with(0), 0, 0, 0, 5, 2, Edges.BOUNDS);
        Edges.range(State.SIX.looking("?"), "inText", Edges.with(0), 0, 0, 2, 5, 3, Edges.BOUNDS);
        Edges.range(State.HAND.looking("ab"), "inText", Edges.with(0), 0, 0, 2, 1, 0, Edges.BOUNDS);
        Edges.none(State.EMPTIED, "inText", Edges.with(0), 0, Edges.BOUNDS);
        Edges.taken(State.SIX.looking("?"), 0, "inText", 2);
        Edges.range(State.SIX.looking("h"), "listed", Edges.with(0), 0, 0, 5, 0, 5, Edges.ELEMENT);
        Edges.range(State.SIX.looking("?"), "listed", Edges.with(0), 0, 0, 0, 4, 5, Edges.ELEMENT);
        Edges.range(State.of("a", "a", "a", "a", "a", "a").looking("a"), "listed", Edges.with(0), 0, 0, 0, 5, 5,
                Edges.ELEMENT);
        Edges.taken(State.SIX.looking("?"), 3, "listed", 2);
        Edges.none(State.EMPTIED, "listed", Edges.with(0), 0, Edges.ELEMENT);
        // A text of just 20 signs, one of 19, and one of 159.
        State just = State.of(NINETEEN, TWENTY, "").looking(TWENTY);
        Edges.range(just, "inText", Edges.with(0), 0, 0, 0, 2, 0, Edges.BOUNDS);
        Edges.taken(just, 1, "inText", 1);
        Edges.range(just, "listed", Edges.with(0), 0, 0, 1, 0, 1, Edges.ELEMENT);
        Edges.taken(just, 1, "top");
        Edges.range(LIKE.looking(TWENTY), "inText", Edges.with(0), 0, 0, 140, 0, 140, Edges.BOUNDS);
        Edges.range(LIKE.looking(TWENTY), "listed", Edges.with(0), 0, 0, 0, 0, 0, Edges.ELEMENT);
    }

    private static void tops() {
        Edges.taken(State.SIX.looking("h"), 5, "top");
        Edges.taken(State.SIX.looking("?"), 5, "top");
        Edges.taken(State.SIX.looking("a"), 0, "top");
        // Of several the first.
        Edges.taken(State.of("b", "aab", "a", "aba", "aa").looking("a"), 1, "top");
        Edges.taken(State.of("a", "a", "a", "a", "a", "a").looking("a"), 0, "top");
        Edges.taken(State.of("", "a", "aa").looking("a"), 2, "top");
        Edges.refused(State.HAND.looking("c"), Edges.ELEMENT, "top");
        Edges.refused(State.of("", "").looking("?"), Edges.ELEMENT, "top");
    }
}
