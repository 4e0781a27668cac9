/** The promises 43 to 62 at their edges. */
final class ParseEdges {
    private static final State ONE = State.of("");
    private static final State TWO = State.of("a");
    private static final State LIKE = State.like(159);
    private static final State[] ALL = {State.NONE, State.EMPTIED, ONE, TWO, State.of("", ""), State.HAND, State.SIX,
        LIKE, State.like(14), State.like(15), State.like(16), State.sized(1, 160), State.sized(6, 160),
        State.of("abaab", "ba").looking("a?"), State.sized(6, 160).looking("ab?aabaaabacabaaaaab")};

    private ParseEdges() {
    }

    static void test() {
        nodes();
        pieces();
        phrases();
        copies();
        rules();
        pairs();
        rooms();
        leasts();
        measures();
        prints();
        for (State state : ALL) {
            Edges.taken(state, true, "isSound");
        }
    }

    private static void nodes() {
        String things = "dflpc";
        Edges.taken(State.NONE, 0, "nodes");
        Edges.taken(ONE, 0, "nodes");
        Edges.taken(TWO, 1, "nodes");
        Edges.taken(State.of("", ""), 1, "nodes");
        Edges.taken(State.HAND, 5, "nodes");
        Edges.taken(LIKE, 159, "nodes");
        Edges.none(State.NONE, "node", Edges.with(0, 'd'), 0, Edges.BOUNDS);
        Edges.none(ONE, "node", Edges.with(0, 'p'), 0, Edges.BOUNDS);
        // The parent of the root is -1.
        int[] rootOfTwo = {0, 0, 2, -1, 2};
        int[] rootOfLike = {0, 0, 160, -1, 2};
        int[] lastOfLike = {158, 158, 2, 157, 2};
        for (int i = 0; i < 5; i++) {
            Object[] with = {0, things.charAt(i)};
            Edges.range(TWO, "node", with, 0, 0, rootOfTwo[i], 0, rootOfTwo[i], Edges.BOUNDS);
            Edges.range(LIKE, "node", with, 0, 0, rootOfLike[i], 158, lastOfLike[i], Edges.BOUNDS);
        }
        // The nodes of SIX: the root, and that of h, of the ranks 13 and 14.
        Edges.characters(State.SIX, "node", Edges.with(0, 'd'), 1, things, Edges.with(0, 0, 15, -1, 14), Edges.ARGUMENT);
        Edges.characters(State.SIX, "node", Edges.with(1, 'd'), 1, things, Edges.with(1, 13, 2, 0, 2), Edges.ARGUMENT);
        nodesAre(State.HAND, new int[][] {{0, 0, 9, -1, 4}, {1, 2, 4, 0, 3}, {2, 4, 2, 1, 2}, {1, 6, 3, 0, 2},
            {2, 7, 2, 3, 2}});
        // Of nodes with like first ranks the wider one first: a and aab both begin at the rank 2.
        nodesAre(State.of("aab", "aab"), new int[][] {{0, 0, 8, -1, 4}, {1, 2, 4, 0, 2}, {3, 2, 2, 1, 2},
            {2, 4, 2, 1, 2}, {1, 6, 2, 0, 2}});
        // All that begins with a goes on with b, so ab is the node of these ranks, and a is none.
        nodesAre(State.of("abab", "ab"), new int[][] {{0, 0, 8, -1, 4}, {2, 2, 3, 0, 3}, {1, 5, 3, 0, 3}});
        Edges.first(State.SIX, Edges.BOUNDS, Edges.ARGUMENT, "node", 2, 'x');
        Edges.first(State.NONE, Edges.BOUNDS, Edges.ARGUMENT, "node", 0, 'D');
        Edges.first(State.SIX, Edges.BOUNDS, Edges.ARGUMENT, "node", -1, '\0');
        Edges.taken(State.NONE, 0, "longestRepeat");
        Edges.taken(ONE, 0, "longestRepeat");
        Edges.taken(TWO, 0, "longestRepeat");
        Edges.taken(State.SIX, 1, "longestRepeat");
        Edges.taken(LIKE, 158, "longestRepeat");
        Edges.taken(State.of("abc", "abc"), 3, "longestRepeat");
    }

    /** Of each node the depth, the first rank, how many ranks, the parent, and how many children. */
    private static void nodesAre(State state, int[][] dues) {
        for (int node = 0; node < dues.length; node++) {
            for (int i = 0; i < 5; i++) {
                Edges.taken(state, dues[node][i], "node", node, "dflpc".charAt(i));
            }
        }
        Edges.taken(state, dues.length, "nodes");
        Edges.refused(state, Edges.BOUNDS, "node", dues.length, 'd');
    }

    private static void pieces() {
        Edges.range(State.NONE, "distinct", Edges.with(0), 0, 0, 0, 160, 0, Edges.ARGUMENT);
        Edges.range(State.NONE, "distinctAnew", Edges.with(0), 0, 1, 0, 160, 0, Edges.ARGUMENT);
        Edges.range(ONE, "distinct", Edges.with(0), 0, 0, 0, 160, 0, Edges.ARGUMENT);
        Edges.range(State.HAND, "distinct", Edges.with(0), 0, 0, 11, 160, 0, Edges.ARGUMENT);
        Edges.range(State.HAND, "distinctAnew", Edges.with(0), 0, 1, 2, 160, 0, Edges.ARGUMENT);
        Edges.range(LIKE, "distinct", Edges.with(0), 0, 0, 159, 160, 0, Edges.ARGUMENT);
        Edges.range(LIKE, "distinctAnew", Edges.with(0), 0, 1, 1, 160, 0, Edges.ARGUMENT);
        for (String call : new String[] {"distinct", "distinctAnew"}) {
            Edges.taken(LIKE, 1, call, 159);
            Edges.taken(State.HAND, 1, call, 5);
            Edges.taken(State.HAND, 0, call, 6);
            Edges.taken(State.SIX, 8, call, 1);
            Edges.taken(State.SIX, 4, call, 2);
            // Ends are no letters: there is no piece of both texts.
            Edges.taken(State.of("a", "a"), 1, call, 1);
            Edges.taken(State.of("a", "a"), 0, call, 2);
        }
        Edges.taken(State.SIX, 13, "distinct", 0);
        int[] runs = {0, 0, 1, 2, 2, 8, 15, 2};
        for (int i = 0; i < runs.length; i++) {
            Edges.taken(ALL[i], runs[i], "runs");
        }
    }

    private static void phrases() {
        int[] byCopies = {0, 0, 1, 2, 2, 7, 15, 3};
        int[] byPhrases = {0, 0, 1, 2, 2, 6, 14, 18};
        for (int i = 0; i < byCopies.length; i++) {
            Edges.characters(ALL[i], "phrases", Edges.with('7'), 0, "78", Edges.with(byCopies[i], byPhrases[i]),
                    Edges.ARGUMENT);
        }
        Edges.none(State.NONE, "phrase", Edges.with('7', 0, 'p'), 1, Edges.BOUNDS);
        Edges.none(State.NONE, "phrase", Edges.with('8', 0, 'f'), 1, Edges.BOUNDS);
        String things = "plf";
        int[] firstOfLike = {0, 1, -1};
        int[][] lastOfLike = {{159, 1, -1}, {153, 7, 5}};
        for (int i = 0; i < 3; i++) {
            for (int parse = 0; parse < 2; parse++) {
                Object[] with = {"78".charAt(parse), 0, things.charAt(i)};
                Edges.range(LIKE, "phrase", with, 1, 0, firstOfLike[i], 2 + 15 * parse, lastOfLike[parse][i],
                        Edges.BOUNDS);
                Edges.range(ONE, "phrase", with, 1, 0, firstOfLike[i], 0, firstOfLike[i], Edges.BOUNDS);
            }
        }
        Edges.characters(LIKE, "phrase", Edges.with('7', 1, 'l'), 0, "78", Edges.with(158, 2), Edges.ARGUMENT);
        Edges.characters(LIKE, "phrase", Edges.with('7', 1, 'p'), 2, things, Edges.with(1, 158, 0), Edges.ARGUMENT);
        Edges.characters(LIKE, "phrase", Edges.with('8', 1, 'p'), 2, things, Edges.with(1, 2, 0), Edges.ARGUMENT);
        Edges.first(LIKE, Edges.ARGUMENT, Edges.BOUNDS, "phrase", '9', 3, 'p');
        Edges.first(LIKE, Edges.ARGUMENT, Edges.BOUNDS, "phrase", '7', 3, 'd');
        Edges.first(State.NONE, Edges.ARGUMENT, Edges.BOUNDS, "phrase", '8', -1, 'P');
    }

    private static void copies() {
        // Of several the lowest such place; an end is a letter by itself, too.
        State several = State.of("abcabdab");
        int[] sources = {-1, -1, -1, 0, -1, 0, -1};
        for (int i = 0; i < sources.length; i++) {
            Edges.taken(several, sources[i], "phrase", '7', i, 'f');
        }
        Edges.taken(State.of("aba", "a", "ba"), 0, "phrase", '7', 4, 'f');
        // The lowest place, whether its end is the higher or the lower one of several.
        Edges.taken(State.of("ahagab"), 0, "phrase", '7', 4, 'f');
        Edges.taken(State.of("abagah"), 0, "phrase", '7', 4, 'f');
        // The longest, though a lower place has a shorter one.
        Edges.taken(State.of("abacacb", "acb"), 4, "phrase", '7', 7, 'f');
        int[] literals = {0, 0, 1, 2, 2, 4, 14, 2};
        for (int i = 0; i < literals.length; i++) {
            Edges.taken(ALL[i], literals[i], "literals");
        }
    }

    private static void rules() {
        int[] rules = {0, 0, 0, 0, 0, 1, 0, 6};
        for (int i = 0; i < rules.length; i++) {
            Edges.taken(ALL[i], rules[i], "rules");
        }
        Edges.none(State.NONE, "rule", Edges.with(0, false), 0, Edges.BOUNDS);
        Edges.none(State.SIX, "rule", Edges.with(0, true), 0, Edges.BOUNDS);
        Edges.range(State.HAND, "rule", Edges.with(0, false), 0, 0, 6, 0, 6, Edges.BOUNDS);
        Edges.range(State.HAND, "rule", Edges.with(0, true), 0, 0, 7, 0, 7, Edges.BOUNDS);
        Edges.range(LIKE, "rule", Edges.with(0, false), 0, 0, 6, 5, 104, Edges.BOUNDS);
        Edges.range(LIKE, "rule", Edges.with(0, true), 0, 0, 6, 5, 104, Edges.BOUNDS);
        Edges.none(State.NONE, "left", Edges.with(0), 0, Edges.ELEMENT);
        Edges.none(State.EMPTIED, "left", Edges.with(0), 0, Edges.ELEMENT);
        Edges.range(ONE, "left", Edges.with(0), 0, 0, 0, 0, 0, Edges.ELEMENT);
        Edges.range(TWO, "left", Edges.with(0), 0, 0, 6, 1, 0, Edges.ELEMENT);
        Edges.range(State.HAND, "left", Edges.with(0), 0, 0, 100, 6, 1, Edges.ELEMENT);
        Edges.range(State.SIX, "left", Edges.with(0), 0, 0, 6, 14, 5, Edges.ELEMENT);
        Edges.range(LIKE, "left", Edges.with(0), 0, 0, 105, 7, 0, Edges.ELEMENT);
        Edges.none(State.NONE, "byRules", Edges.with(0), 0, Edges.BOUNDS);
        Edges.range(ONE, "byRules", Edges.with(0), 0, 0, '0', 0, '0', Edges.BOUNDS);
        Edges.range(TWO, "byRules", Edges.with(0), 0, 0, 'a', 1, '0', Edges.BOUNDS);
        Edges.range(State.HAND, "byRules", Edges.with(0), 0, 0, 'a', 8, '1', Edges.BOUNDS);
        Edges.range(State.SIX, "byRules", Edges.with(0), 0, 0, 'a', 14, '5', Edges.BOUNDS);
        Edges.range(LIKE, "byRules", Edges.with(0), 0, 0, 'a', 159, '0', Edges.BOUNDS);
    }

    /** The most often, without overlap; of several the one that is there first. */
    private static void pairs() {
        String[] texts = {"cdcdabab", "ababcdcd", "aaa", "aaaa", "abcbabcb", "dabab", "aaabab", "bbbaaab", "cabcab"};
        int[][] dues = {{8, 9}, {6, 7}, {}, {6, 6}, {6, 7}, {6, 7}, {6, 7}, {}, {8, 6}};
        for (int i = 0; i < texts.length; i++) {
            State state = State.of(texts[i]);
            if (dues[i].length > 0) {
                Edges.taken(state, dues[i][0], "rule", 0, false);
                Edges.taken(state, dues[i][1], "rule", 0, true);
            } else {
                Edges.taken(state, 0, "rules");
            }
        }
        // No pair has an end in it twice, since each end is there but once.
        Edges.taken(State.of("a", "a", "a", "a", "a", "a"), 0, "rules");
        Edges.taken(State.of("ab", "ab"), 1, "rules");
    }

    private static void rooms() {
        int[][] dues = {{0, 0, 0, 0, 0, 32}, {0, 0, 0, 0, 0, 32}, {1, 2, 2, 2, 1, 36}, {2, 4, 8, 6, 2, 40},
            {2, 4, 8, 6, 2, 40}, {18, 48, 56, 30, 27, 68}, {60, 120, 120, 112, 60, 92}, {160, 18, 48, 108, 60, 992}};
        for (int i = 0; i < dues.length; i++) {
            Object[] due = new Object[6];
            for (int room = 0; room < 6; room++) {
                due[room] = dues[i][room];
            }
            Edges.characters(ALL[i], "room", Edges.with('p'), 0, "pr78gw", due, Edges.ARGUMENT);
        }
        // Of 14 letters a and more: the numbers 16 and 17 of things need 4 and 5 bits, blocks begin at 16.
        int[][] around = {{24, 10, 92}, {30, 10, 128}, {30, 12, 132}};
        for (int more = 0; more < 3; more++) {
            for (int room = 0; room < 3; room++) {
                Edges.taken(State.like(14 + more), around[more][room], "room", "7rw".charAt(room));
            }
        }
        // 3 and 4 phrases, so that q + 1 is 4 and 5; one different sign, two and three; rules counted with them.
        Edges.taken(State.like(4), 9, "room", '8');
        Edges.taken(State.like(6), 16, "room", '8');
        Edges.taken(State.of("", ""), 2, "room", 'p');
        Edges.taken(State.of("", "", ""), 6, "room", 'p');
        Edges.taken(State.like(3), 4, "room", 'g');
        Edges.taken(State.like(4), 10, "room", 'g');
    }

    private static void leasts() {
        char[] dues = {'p', 'p', 'p', 'p', 'p', 'p', 'p', 'r'};
        for (int i = 0; i < dues.length; i++) {
            Edges.taken(ALL[i], dues[i], "least");
        }
        least(State.of("", "", "aaaaaaaaa"), 'p', 24, 24, 40, 30, 30, 80);
        least(State.of("aaaaaaa", "aaaaa").and("fibonacci", 0, 25), 'p', 78, 96, 120, 78, 92, 252);
        least(State.of("aaaaaaaa", "aaaaaaa", ""), 'r', 36, 35, 60, 35, 36, 136);
        least(State.of("").and("fibonacci", 0, 30), 'r', 62, 42, 80, 72, 42, 188);
        least(State.of("aaaaaaaaaa").and("fibonacci", 0, 19).and("repeat", 0, 0, 47), '7', 154, 117, 112, 140, 116, 468);
        least(State.of("", "").and("draw", 0, 10, 3, 2).and("repeat", 0, 0, 46).and("fibonacci", 0, 11), '7',
                124, 88, 84, 90, 84, 376);
        least(State.of("aaaaaaaaaa", "", "").and("fibonacci", 0, 15).and("repeat", 0, 0, 40).and("draw", 1, 0, 8, 3)
                .and("repeat", 1, 0, 14), '7', 270, 230, 224, 224, 225, 552);
        least(State.of("aaaaa", "").and("fibonacci", 1, 31), '8', 76, 88, 132, 72, 80, 248);
        least(State.of("aaaaa", "cc", "").and("fibonacci", 2, 23), '8', 99, 108, 168, 84, 84, 228);
        least(State.of("").and("fibonacci", 0, 29), 'g', 60, 42, 80, 72, 39, 184);
    }

    /** Of several the first, in the order of the rooms that are given here. */
    private static void least(State state, char due, int... rooms) {
        Edges.taken(state, due, "least");
        for (int i = 0; i < rooms.length; i++) {
            Edges.taken(state, rooms[i], "room", "pr78gw".charAt(i));
        }
    }

    private static void measures() {
        float[] densities = {0, 0, 1, 2, 2, 4, 14, 2};
        for (int i = 0; i < densities.length; i++) {
            Edges.taken(ALL[i], densities[i], "density");
            Edges.taken(ALL[i], Float.floatToIntBits(densities[i]), "densityBits");
        }
        // All 16 pieces of four of two letters, and one with the end; all 27 of three of three letters, and one.
        density(State.of("aaaabaabbababbbbaaa"), 4.25f, 0x40880000);
        density(State.of("aaabaacabbabcacbaccbbbcbcccaa"), 28.0f / 3.0f, 0x41155555);
        // Three signs, but only five pieces of two.
        density(State.of("aabba"), 3, 0x40400000);
        Edges.refused(State.NONE, Edges.ARITHMETIC, "meanCommon");
        Edges.refused(State.EMPTIED, Edges.ARITHMETIC, "meanCommon");
        Edges.taken(ONE, 0.0, "meanCommon");
        Edges.taken(TWO, 0.0, "meanCommon");
        Edges.taken(State.HAND, 7.0 / 9.0, "meanCommon");
        Edges.taken(State.SIX, 1.0 / 15.0, "meanCommon");
        Edges.taken(LIKE, 78.50625, "meanCommon");
    }

    private static void density(State state, float due, int bits) {
        Edges.taken(state, due, "density");
        Edges.taken(state, bits, "densityBits");
    }

    /** Of so many a, the print is that of a turned text of all a and the end behind them. */
    private static void prints() {
        Edges.taken(State.NONE, 7L, "print");
        Edges.taken(State.EMPTIED, 7L, "print");
        Edges.taken(ONE, 217L, "print");
        Edges.taken(TWO, (7L * 31 + 6) * 31, "print");
        java.math.BigInteger print = java.math.BigInteger.valueOf(7);
        for (int letters = 1; letters <= 159; letters++) {
            print = print.multiply(java.math.BigInteger.valueOf(31)).add(java.math.BigInteger.valueOf(6));
            java.math.BigInteger all = print.multiply(java.math.BigInteger.valueOf(31));
            // The print of 12 signs is a long yet, that of 13 goes beyond it.
            Due.isEqual("a print of " + (letters + 1) + " signs is a long", all.bitLength() < 64, letters < 12);
            if (letters < 20 || letters > 156) {
                Edges.taken(State.like(letters), all.longValue(), "print");
            }
        }
    }
}
