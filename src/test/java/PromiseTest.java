import java.util.Random;

/**
 * Each promise by answers worked out by hand, mostly on the whole "abaab0ba1".
 *
 * <p>Its ends, sorted: 0ba1 (5), 1 (8), a1 (7), aab0ba1 (2), ab0ba1 (3), abaab0ba1 (0), b0ba1 (4), ba1 (6),
 * baab0ba1 (1); the turned text is babba1a0a.
 */
public final class PromiseTest {
    private static final String STATE = "IllegalStateException";
    private static final String ARGUMENT = "IllegalArgumentException";
    private static final String BOUNDS = "IndexOutOfBoundsException";
    private static final String ELEMENT = "NoSuchElementException";
    private static final String UNSUPPORTED = "UnsupportedOperationException";
    private static final String ARITHMETIC = "ArithmeticException";
    private static final int FAR = Integer.MAX_VALUE;
    private static final int DEEP = Integer.MIN_VALUE;

    public static void main(String[] args) {
        makes();
        puts();
        changes();
        reads();
        orders();
        rows();
        searches();
        searchesWrongly();
        grows();
        parses();
        pairs();
        measures();
        isSoundAlways();
        Due.end();
    }

    private static TextBurrow hand() {
        return of("abaab", "ba");
    }

    private static TextBurrow of(String... texts) {
        TextBurrow burrow = new TextBurrow();
        for (String text : texts) {
            int number = burrow.newText();
            for (char letter : text.toCharArray()) {
                burrow.append(number, letter);
            }
        }
        return burrow;
    }

    private static TextBurrow full() {
        TextBurrow burrow = of("");
        burrow.draw(0, 1, 60, 4);
        burrow.draw(0, 2, 60, 4);
        burrow.draw(0, 3, 39, 4);
        return burrow;
    }

    private static void look(TextBurrow burrow, String pattern) {
        burrow.wipe();
        for (char sign : pattern.toCharArray()) {
            burrow.sign(sign);
        }
    }

    private static String textOf(TextBurrow burrow, int text) {
        StringBuilder letters = new StringBuilder();
        for (int i = 0; i < burrow.length(text); i++) {
            letters.append(burrow.letterAt(text, i));
        }
        return letters.toString();
    }

    interface Asked {
        Object of(int index);
    }

    /** Answers one behind the other, from the index 0 on. */
    private static void row(String what, int many, Asked asked, String due) {
        StringBuilder got = new StringBuilder();
        for (int i = 0; i < many; i++) {
            int index = i;
            got.append(i > 0 ? " " : "").append(Due.answer(() -> asked.of(index)));
        }
        Due.isEqual(what, got.toString(), due);
    }

    private static void makes() {
        TextBurrow burrow = new TextBurrow();
        Due.is("1: a new object has no texts", burrow::texts, 0);
        Due.is("1: a new object's whole", burrow::whole, 0);
        Due.is("1: a new object's undo", burrow::undo, ELEMENT);
        Due.is("1: a new object's pattern", burrow::wipe, 0);
        for (int i = 0; i < 6; i++) {
            Due.is("2: newText", burrow::newText, i);
            Due.is("2: a new text is empty", () -> burrow.length(burrow.texts() - 1), 0);
        }
        Due.is("2: a seventh text", burrow::newText, STATE);
        Due.is("12: texts", burrow::texts, 6);
        Due.is("15: whole of six ends", burrow::whole, 6);
        row("16: six ends", 6, burrow::rebuilt, "0 1 2 3 4 5");
        TextBurrow full = full();
        Due.is("2: newText in a full whole", full::newText, STATE);
        Due.is("2: newText in a full whole leaves it", full::texts, 1);
        full.remove(0, 0);
        Due.is("2: newText as the last sign", full::newText, 1);
        Due.is("15: a full whole", full::whole, 160);
    }

    private static void puts() {
        TextBurrow burrow = hand();
        Due.is("3: append", () -> burrow.append(0, 'h'), 6);
        Due.is("3: appended", () -> textOf(burrow, 0), "abaabh");
        Due.is("3: no such text", () -> burrow.append(2, 'i'), BOUNDS);
        Due.is("3: no such text", () -> burrow.append(-1, 'a'), BOUNDS);
        Due.is("3: letter above", () -> burrow.append(0, 'i'), ARGUMENT);
        Due.is("3: letter below", () -> burrow.append(0, '`'), ARGUMENT);
        Due.is("3: full", () -> full().append(0, 'a'), STATE);
        Due.is("3: full, wrong letter", () -> full().append(0, '?'), ARGUMENT);
        Due.is("4: repeat", () -> burrow.repeat(1, 0, 5), 7);
        Due.is("4: repeated", () -> textOf(burrow, 1), "bababab");
        Due.is("4: repeat of the last", () -> burrow.repeat(0, 5, 2), 8);
        Due.is("4: repeated the last", () -> textOf(burrow, 0), "abaabhhh");
        Due.is("4: no such text", () -> burrow.repeat(2, -1, 0), BOUNDS);
        Due.is("4: no such place", () -> burrow.repeat(0, 8, 1), ARGUMENT);
        Due.is("4: no such place", () -> burrow.repeat(0, -1, 1), ARGUMENT);
        Due.is("4: count 0", () -> burrow.repeat(0, 0, 0), ARGUMENT);
        Due.is("4: count 61", () -> burrow.repeat(0, 0, 61), ARGUMENT);
        Due.is("4: count far", () -> burrow.repeat(0, 0, FAR), ARGUMENT);
        Due.is("4: count 60", () -> burrow.repeat(0, 0, 60), 68);
        Due.is("4: full", () -> full().repeat(0, 0, 1), STATE);
        TextBurrow drawn = of("b");
        // 75 * 1 + 74 = 149, 75 * 149 + 74 = 11249, 75 * 11249 + 74 = 843749, less 12 * 65537 is 57305.
        Due.is("5: draw", () -> drawn.draw(0, 1, 3, 8), 4);
        Due.is("5: drawn", () -> textOf(drawn, 0), "bfbb");
        Due.is("5: no such text", () -> drawn.draw(1, -1, 1, 1), BOUNDS);
        Due.is("5: seed -1", () -> drawn.draw(0, -1, 1, 1), ARGUMENT);
        Due.is("5: seed 10000", () -> drawn.draw(0, 10000, 1, 1), ARGUMENT);
        Due.is("5: count 0", () -> drawn.draw(0, 0, 0, 1), ARGUMENT);
        Due.is("5: count 61", () -> drawn.draw(0, 0, 61, 1), ARGUMENT);
        Due.is("5: letters 0", () -> drawn.draw(0, 0, 1, 0), ARGUMENT);
        Due.is("5: letters 9", () -> drawn.draw(0, 0, 1, 9), ARGUMENT);
        Due.is("5: full", () -> full().draw(0, 0, 1, 1), STATE);
        Due.is("5: seed 9999", () -> drawn.draw(0, 9999, 60, 8), 64);
        Due.is("6: fibonacci", () -> drawn.fibonacci(0, 14), 78);
        Due.is("6: the word", () -> textOf(drawn, 0).substring(64), "abaababaabaaba");
        Due.is("6: fibonacci of 1", () -> drawn.fibonacci(0, 1), 79);
        Due.is("6: the word of 1", () -> textOf(drawn, 0).substring(76), "baa");
        Due.is("6: no such text", () -> drawn.fibonacci(1, 0), BOUNDS);
        Due.is("6: count 0", () -> drawn.fibonacci(0, 0), ARGUMENT);
        Due.is("6: count 91", () -> drawn.fibonacci(0, 91), ARGUMENT);
        Due.is("6: too long", () -> drawn.fibonacci(0, 81), STATE);
        Due.is("6: as long as can be", () -> drawn.fibonacci(0, 80), 159);
        Due.is("6: count 90", () -> of("").fibonacci(0, 90), 90);
        inserts();
    }

    private static void inserts() {
        TextBurrow burrow = hand();
        Due.is("7: insert at the end", () -> burrow.insert(0, 5, 'h'), 6);
        Due.is("7: insert at 0", () -> burrow.insert(1, 0, 'c'), 3);
        Due.is("7: insert within", () -> burrow.insert(0, 2, 'd'), 7);
        Due.is("7: inserted", () -> textOf(burrow, 0) + textOf(burrow, 1), "abdaabhcba");
        Due.is("7: no such text", () -> burrow.insert(2, 9, 'i'), BOUNDS);
        Due.is("7: no such place", () -> burrow.insert(0, 8, 'a'), ARGUMENT);
        Due.is("7: no such place", () -> burrow.insert(0, -1, 'a'), ARGUMENT);
        Due.is("7: no such letter", () -> burrow.insert(0, 0, '0'), ARGUMENT);
        Due.is("7: full", () -> full().insert(0, 0, 'a'), STATE);
        Due.is("7: as the last sign", () -> {
            TextBurrow each = full();
            each.remove(0, 158);
            return each.insert(0, 0, 'h') + " " + each.whole() + each.letterAt(0, 0);
        }, "159 160h");
        Due.is("3: as the last sign", () -> {
            TextBurrow each = full();
            each.remove(0, 0);
            return each.append(0, 'h') + " " + each.whole() + each.letterAt(0, 158);
        }, "159 160h");
        Due.is("7: full, no such place", () -> full().insert(0, 160, 'a'), ARGUMENT);
        Due.is("8: remove", () -> burrow.remove(0, 2), 'd');
        Due.is("8: remove the last", () -> burrow.remove(1, 2), 'a');
        Due.is("8: removed", () -> textOf(burrow, 0) + textOf(burrow, 1), "abaabhcb");
        Due.is("8: no such text", () -> burrow.remove(2, 9), BOUNDS);
        Due.is("8: no such text", () -> burrow.remove(-1, 0), BOUNDS);
        Due.is("8: no such place", () -> burrow.remove(1, 2), ARGUMENT);
        Due.is("8: no such place", () -> burrow.remove(1, -1), ARGUMENT);
        Due.is("8: left as it was", burrow::whole, 10);
    }

    private static void changes() {
        TextBurrow burrow = hand();
        Due.is("10: snapshot", burrow::snapshot, 0);
        Due.is("10: a snapshot is no change", burrow::undo, 8);
        Due.is("9: undone", () -> textOf(burrow, 1), "b");
        for (int i = 1; i < 8; i++) {
            Due.is("10: snapshot", burrow::snapshot, i);
        }
        Due.is("10: a ninth snapshot", burrow::snapshot, STATE);
        Due.is("11: restore", () -> burrow.restore(0), 2);
        Due.is("11: restored", () -> textOf(burrow, 1), "ba");
        Due.is("11: no such snapshot", () -> burrow.restore(8), BOUNDS);
        Due.is("11: no such snapshot", () -> burrow.restore(-1), BOUNDS);
        Due.is("11: a snapshot stays", () -> burrow.restore(0), 2);
        Due.is("9: a restore is a change", burrow::undo, 9);
        Due.is("9: a restore is undone", burrow::undo, 8);
        Due.is("9: as ahead of the restore", () -> textOf(burrow, 1), "b");
        Due.is("9: undo of a newText", () -> "" + burrow.undo() + burrow.undo() + burrow.texts(), "761");
        Due.is("11: an undone text comes back", () -> burrow.restore(0) + textOf(burrow, 1), "2ba");
        TextBurrow many = of("");
        for (int i = 0; i < 25; i++) {
            many.append(0, 'a');
        }
        Due.is("9: no undo counts what throws", () -> many.append(0, 'i'), ARGUMENT);
        for (int i = 19; i >= 0; i--) {
            Due.is("9: undo of 20", many::undo, i);
        }
        Due.is("9: the 21st", many::undo, ELEMENT);
        Due.is("9: what is left", () -> many.length(0), 5);
        Due.is("9: calls are one change each", () -> {
            TextBurrow each = of("ab");
            each.repeat(0, 0, 60);
            each.draw(0, 1, 20, 3);
            each.fibonacci(0, 20);
            each.undo();
            each.undo();
            return each.undo() + textOf(each, 0);
        }, "3ab");
        Due.is("10: without texts", () -> {
            TextBurrow empty = new TextBurrow();
            empty.snapshot();
            empty.newText();
            return "" + empty.restore(0) + empty.whole();
        }, "00");
        Due.is("9: the pattern and the samples are no changes", () -> {
            TextBurrow each = of("ab");
            each.sign('a');
            each.setSample(7);
            each.undo();
            return "" + each.wipe() + each.setSample(1);
        }, "17");
    }

    private static void reads() {
        TextBurrow burrow = hand();
        Due.is("12: texts", burrow::texts, 2);
        row("13: length", 3, burrow::length, "5 2 IndexOutOfBoundsException");
        Due.is("13: no such text", () -> burrow.length(-1), BOUNDS);
        row("14: letterAt", 6, i -> burrow.letterAt(0, i), "a b a a b NoSuchElementException");
        Due.is("14: no such place", () -> burrow.letterAt(1, -1), ELEMENT);
        Due.is("14: no such text", () -> burrow.letterAt(2, 9), BOUNDS);
        Due.is("15: whole", burrow::whole, 9);
        row("16: rebuilt", 10, burrow::rebuilt, "a b a a b 0 b a 1 IndexOutOfBoundsException");
        Due.is("16: no such place", () -> burrow.rebuilt(-1), BOUNDS);
    }

    private static void orders() {
        TextBurrow burrow = hand();
        row("17: suffix", 10, burrow::suffix, "5 8 7 2 3 0 4 6 1 IndexOutOfBoundsException");
        row("18: rankOf", 10, burrow::rankOf, "5 8 3 4 6 0 7 2 1 IndexOutOfBoundsException");
        row("19: turned", 10, burrow::turned, "b a b b a 1 a 0 a IndexOutOfBoundsException");
        row("20: common", 10, burrow::common, "0 0 0 1 1 2 0 1 2 IndexOutOfBoundsException");
        row("21: commonAnew", 10, burrow::commonAnew, "0 0 0 1 1 2 0 1 2 IndexOutOfBoundsException");
        row("22: back", 10, burrow::back, "6 2 7 8 3 1 4 0 5 IndexOutOfBoundsException");
        row("24: walk", 10, burrow::walk, "1 0 3 2 3 0 0 2 1 IndexOutOfBoundsException");
        for (int none : new int[] {-1, 9, DEEP, FAR}) {
            Due.is("17: " + none, () -> burrow.suffix(none), BOUNDS);
            Due.is("18: " + none, () -> burrow.rankOf(none), BOUNDS);
            Due.is("19: " + none, () -> burrow.turned(none), BOUNDS);
            Due.is("20: " + none, () -> burrow.common(none), BOUNDS);
            Due.is("21: " + none, () -> burrow.commonAnew(none), BOUNDS);
            Due.is("22: " + none, () -> burrow.back(none), BOUNDS);
            Due.is("24: " + none, () -> burrow.walk(none), BOUNDS);
        }
        Due.is("23: setSample", () -> burrow.setSample(16), 4);
        row("24: walk to multiples of 16", 9, burrow::walk, "5 8 7 2 3 0 4 6 1");
        Due.is("23: setSample", () -> burrow.setSample(1), 16);
        row("24: walk to any place", 9, burrow::walk, "0 0 0 0 0 0 0 0 0");
        Due.is("23: 0", () -> burrow.setSample(0), ARGUMENT);
        Due.is("23: 17", () -> burrow.setSample(17), ARGUMENT);
        Due.is("23: left as it was", () -> burrow.setSample(3), 1);
        row("24: walk to multiples of 3", 9, burrow::walk, "2 2 1 2 0 0 1 0 1");
        TextBurrow single = of("");
        Due.is("22: back of a single sign", () -> single.back(0), 0);
        Due.is("19: turned of a single sign", () -> single.turned(0), '0');
        Due.is("17: without texts", () -> new TextBurrow().suffix(0), BOUNDS);
        TextBurrow ends = of("", "", "ab");
        row("17: empty texts", 5, ends::suffix, "0 1 4 2 3");
        row("19: empty texts", 5, ends::turned, "2 0 b 1 a");
    }

    private static void rows() {
        TextBurrow burrow = hand();
        // codes 7 6 7 7 6 1 6 0 6; the bits of 4 part them into 1 0 7 6 7 7 6 6 6, and so they stay.
        row("25: row 0", 10, to -> burrow.ones(0, to), "0 0 0 0 0 0 0 0 0 0");
        row("25: row 1", 10, to -> burrow.ones(1, to), "0 1 2 3 4 5 5 6 6 7");
        row("25: row 2", 10, to -> burrow.ones(2, to), "0 0 0 1 2 3 4 5 6 7");
        row("25: row 3", 10, to -> burrow.ones(3, to), "0 1 1 2 2 3 4 4 4 4");
        row("25: all rows", 6, row -> burrow.ones(row - 1, 9), BOUNDS + " 0 7 7 4 " + BOUNDS);
        Due.is("25: no such place", () -> burrow.ones(0, 10), BOUNDS);
        Due.is("25: no such place", () -> burrow.ones(0, -1), BOUNDS);
        row("26: rank of b", 11, to -> burrow.rank(7, to), "0 1 1 2 3 3 3 3 3 3 IndexOutOfBoundsException");
        row("26: rank of end 0", 10, to -> burrow.rank(0, to), "0 0 0 0 0 0 0 0 1 1");
        Due.is("26: a sign that is not there", () -> burrow.rank(13, 9), 0);
        Due.is("26: no such code nor rank", () -> burrow.rank(14, 10), ARGUMENT);
        Due.is("26: no such code", () -> burrow.rank(-1, 0), ARGUMENT);
        Due.is("26: no such rank", () -> burrow.rank(6, -1), BOUNDS);
        row("27: select of a", 6, i -> burrow.select(6, i), ELEMENT + " 1 4 6 8 " + ELEMENT);
        row("27: select of end 1", 3, i -> burrow.select(1, i), ELEMENT + " 5 " + ELEMENT);
        Due.is("27: never there", () -> burrow.select(13, 1), ELEMENT);
        Due.is("27: below", () -> burrow.select(6, DEEP), ELEMENT);
        Due.is("27: far", () -> burrow.select(6, FAR), ELEMENT);
        Due.is("27: no such code", () -> burrow.select(14, 99), ARGUMENT);
        Due.is("27: no such code", () -> burrow.select(-1, 1), ARGUMENT);
        row("28: quantile", 10, i -> burrow.quantile(0, 9, i), "0 1 6 6 6 6 7 7 7 NoSuchElementException");
        row("28: quantile within", 5, i -> burrow.quantile(2, 6, i), "1 6 7 7 NoSuchElementException");
        Due.is("28: index -1", () -> burrow.quantile(0, 9, -1), ELEMENT);
        Due.is("28: no ranks", () -> burrow.quantile(9, 9, 0), ELEMENT);
        Due.is("28: ranks turned round", () -> burrow.quantile(3, 2, 0), BOUNDS);
        Due.is("28: beyond", () -> burrow.quantile(0, 10, 99), BOUNDS);
        Due.is("28: below", () -> burrow.quantile(-1, 3, 0), BOUNDS);
        row("29: below", 17, code -> burrow.below(0, 9, code - 1),
                ARGUMENT + " 0 1 2 2 2 2 2 6 9 9 9 9 9 9 9 " + ARGUMENT);
        row("29: below within", 9, code -> burrow.below(2, 6, code), "0 0 1 1 1 1 1 2 4");
        Due.is("29: no such ranks nor code", () -> burrow.below(0, 10, 15), BOUNDS);
        Due.is("29: ranks turned round", () -> burrow.below(3, 2, 0), BOUNDS);
        Due.is("30: most", () -> burrow.most(0, 4), 7);
        Due.is("30: most of one", () -> burrow.most(5, 6), 1);
        Due.is("30: just half", () -> burrow.most(0, 2), ELEMENT);
        Due.is("30: just half of nine", () -> burrow.most(0, 9), ELEMENT);
        Due.is("30: more than half", () -> burrow.most(4, 9), 6);
        Due.is("30: none", () -> burrow.most(9, 9), ELEMENT);
        Due.is("30: beyond", () -> burrow.most(9, 10), BOUNDS);
        Due.is("30: ranks turned round", () -> burrow.most(3, 2), BOUNDS);
    }

    private static void searches() {
        TextBurrow burrow = hand();
        Due.is("31: sign", () -> "" + burrow.sign('a') + burrow.sign('b'), "12");
        row("33: count", 1, i -> burrow.count() + " " + burrow.countAnew() + " " + burrow.firstRank(), "2 2 4");
        row("35: at", 4, i -> burrow.at(i - 1), ELEMENT + " 0 3 " + ELEMENT);
        row("40: inText", 4, i -> burrow.inText(i - 1), BOUNDS + " 2 0 " + BOUNDS);
        row("41: listed", 3, i -> burrow.listed(i - 1), ELEMENT + " 0 " + ELEMENT);
        Due.is("42: top", burrow::top, 0);
        row("38: near", 4, burrow::near, "2 3 5 5");
        row("39: nearAnew", 4, burrow::nearAnew, "2 3 5 5");
        look(burrow, "?a");
        row("33: count with ?", 1, i -> burrow.count() + " " + burrow.countAnew(), "3 3");
        row("35: at with ?", 4, burrow::at, "1 2 6 NoSuchElementException");
        row("41: listed with ?", 3, burrow::listed, "0 1 NoSuchElementException");
        row("40: inText with ?", 2, burrow::inText, "2 1");
        Due.is("36: firstRank with ?", burrow::firstRank, UNSUPPORTED);
        Due.is("37: matching with ?", () -> burrow.matching(1), UNSUPPORTED);
        look(burrow, "a");
        Due.is("42: top of several", burrow::top, 0);
        look(burrow, "bab");
        row("37: matching", 4, burrow::matching, "2 2 1 IndexOutOfBoundsException");
        Due.is("37: no such place", () -> burrow.matching(-1), BOUNDS);
        Due.is("33: nowhere", burrow::count, 0);
        Due.is("36: nowhere", burrow::firstRank, ELEMENT);
        Due.is("42: nowhere", burrow::top, ELEMENT);
        // aba, baa and aab are there; ends are like nothing, so that "ab0" and "ba1" never count.
        row("38: near of bab", 4, burrow::near, "0 2 2 3");
        row("39: nearAnew of bab", 4, burrow::nearAnew, "0 2 2 3");
        Due.is("42: the first of several", () -> {
            TextBurrow each = of("b", "ab", "a", "ba");
            each.sign('a');
            return "" + each.top() + each.listed(0) + each.listed(2);
        }, "113");
        Due.is("42: the second", () -> {
            TextBurrow each = of("ab", "aab", "aab");
            each.sign('a');
            return each.top();
        }, 1);
        Due.is("32: wipe", burrow::wipe, 3);
        Due.is("32: wiped", burrow::wipe, 0);
    }

    private static void searchesWrongly() {
        TextBurrow burrow = hand();
        Due.is("33: empty pattern", burrow::count, UNSUPPORTED);
        Due.is("34: empty pattern", burrow::countAnew, UNSUPPORTED);
        Due.is("35: empty pattern", () -> burrow.at(-1), UNSUPPORTED);
        Due.is("36: empty pattern", burrow::firstRank, UNSUPPORTED);
        Due.is("37: empty pattern", () -> burrow.matching(0), UNSUPPORTED);
        Due.is("38: empty pattern", () -> burrow.near(4), UNSUPPORTED);
        Due.is("39: empty pattern", () -> burrow.nearAnew(4), UNSUPPORTED);
        Due.is("40: empty pattern", () -> burrow.inText(2), UNSUPPORTED);
        Due.is("41: empty pattern", () -> burrow.listed(0), UNSUPPORTED);
        Due.is("42: empty pattern", burrow::top, UNSUPPORTED);
        Due.is("31: no such sign", () -> burrow.sign('i'), ARGUMENT);
        Due.is("31: no such sign", () -> burrow.sign('0'), ARGUMENT);
        for (int i = 1; i <= 20; i++) {
            char sign = i == 1 ? '?' : 'h';
            Due.is("31: sign", () -> burrow.sign(sign), i);
        }
        Due.is("31: a 21st sign", () -> burrow.sign('a'), STATE);
        Due.is("31: a 21st sign, not such", () -> burrow.sign('!'), ARGUMENT);
        Due.is("33: longer than the whole", burrow::count, 0);
        Due.is("34: longer than the whole", burrow::countAnew, 0);
        Due.is("38: -1 errors", () -> burrow.near(-1), ARGUMENT);
        Due.is("38: 4 errors", () -> burrow.near(4), ARGUMENT);
        Due.is("39: -1 errors", () -> burrow.nearAnew(-1), ARGUMENT);
        Due.is("39: 4 errors", () -> burrow.nearAnew(4), ARGUMENT);
        Due.is("32: wipe of 20", burrow::wipe, 20);
        TextBurrow long20 = of("h", "");
        long20.draw(1, 7, 40, 8);
        look(long20, textOf(long20, 1).substring(11, 31));
        Due.is("33: a pattern of 20", long20::count, 1);
        Due.is("35: a pattern of 20", () -> long20.at(0), 13);
        Due.is("37: a pattern of 20", () -> long20.matching(0), 20);
        Due.is("40: no such text", () -> long20.inText(2), BOUNDS);
        TextBurrow empty = new TextBurrow();
        empty.sign('a');
        Due.is("33: without texts", () -> "" + empty.count() + empty.countAnew() + empty.near(3), "000");
        Due.is("37: without texts", () -> empty.matching(0), 0);
        Due.is("42: without texts", empty::top, ELEMENT);
        Due.is("41: without texts", () -> empty.listed(0), ELEMENT);
    }

    private static void grows() {
        TextBurrow burrow = hand();
        Due.is("43: nodes", burrow::nodes, 5);
        row("44: depths", 6, i -> burrow.node(i, 'd'), "0 1 2 1 2 IndexOutOfBoundsException");
        row("44: first ranks", 5, i -> burrow.node(i, 'f'), "0 2 4 6 7");
        row("44: ranks", 5, i -> burrow.node(i, 'l'), "9 4 2 3 2");
        row("44: parents", 5, i -> burrow.node(i, 'p'), "-1 0 1 0 3");
        row("44: children", 5, i -> burrow.node(i, 'c'), "4 3 2 2 2");
        Due.is("44: no such node nor thing", () -> burrow.node(5, 'x'), BOUNDS);
        Due.is("44: no such node", () -> burrow.node(-1, 'd'), BOUNDS);
        Due.is("44: no such thing", () -> burrow.node(0, 'D'), ARGUMENT);
        Due.is("45: longestRepeat", burrow::longestRepeat, 2);
        Due.is("45: without repeats", () -> of("abc").longestRepeat(), 0);
        Due.is("45: without texts", () -> new TextBurrow().longestRepeat(), 0);
        Due.is("43: of one sign", () -> of("").nodes(), 0);
        Due.is("43: of two ends", () -> of("", "").nodes(), 1);
        Due.is("44: of two ends", () -> of("", "").node(0, 'c'), 2);
        TextBurrow nested = of("aaaa");
        row("44: nested depths", 4, i -> nested.node(i, 'd'), "0 1 2 3");
        row("44: nested parents", 4, i -> nested.node(i, 'p'), "-1 0 1 2");
        row("44: nested ranks", 4, i -> nested.node(i, 'l'), "5 4 3 2");
        row("46: distinct", 8, i -> burrow.distinct(i - 1), ARGUMENT + " 11 2 3 3 2 1 0");
        row("47: distinctAnew", 8, i -> burrow.distinctAnew(i - 1), ARGUMENT + " " + ARGUMENT + " 2 3 3 2 1 0");
        Due.is("46: 160", () -> burrow.distinct(160), 0);
        Due.is("46: 161", () -> burrow.distinct(161), ARGUMENT);
        Due.is("47: 160", () -> burrow.distinctAnew(160), 0);
        Due.is("47: 161", () -> burrow.distinctAnew(161), ARGUMENT);
        Due.is("46: a full whole", () -> full().distinct(159), 1);
        Due.is("47: a full whole", () -> full().distinctAnew(159), 1);
        Due.is("48: runs", burrow::runs, 8);
        Due.is("48: runs without texts", () -> new TextBurrow().runs(), 0);
        Due.is("48: runs of like letters", () -> nested.runs(), 2);
    }

    private static void parses() {
        TextBurrow burrow = hand();
        Due.is("49: by copies", () -> burrow.phrases('7'), 7);
        Due.is("49: by phrases", () -> burrow.phrases('8'), 6);
        Due.is("49: no such parse", () -> burrow.phrases('9'), ARGUMENT);
        Due.is("49: without texts", () -> new TextBurrow().phrases('7') + new TextBurrow().phrases('8'), 0);
        row("50: places by copies", 8, i -> burrow.phrase('7', i, 'p'), "0 1 2 3 5 6 8 " + BOUNDS);
        row("50: lengths by copies", 7, i -> burrow.phrase('7', i, 'l'), "1 1 1 2 1 2 1");
        row("50: sources by copies", 7, i -> burrow.phrase('7', i, 'f'), "-1 -1 0 0 -1 1 -1");
        row("50: places by phrases", 7, i -> burrow.phrase('8', i, 'p'), "0 1 2 4 6 8 " + BOUNDS);
        row("50: lengths by phrases", 6, i -> burrow.phrase('8', i, 'l'), "1 1 2 2 2 1");
        row("50: sources by phrases", 6, i -> burrow.phrase('8', i, 'f'), "-1 -1 0 1 1 -1");
        Due.is("50: no such parse", () -> burrow.phrase('6', 99, 'p'), ARGUMENT);
        Due.is("50: no such thing", () -> burrow.phrase('7', 99, 'q'), ARGUMENT);
        Due.is("50: no such phrase", () -> burrow.phrase('7', -1, 'p'), BOUNDS);
        TextBurrow overlaid = of("aaaaaaa");
        row("50: copies overlap", 3, i -> "" + overlaid.phrase('7', i, 'p') + overlaid.phrase('7', i, 'l')
                + overlaid.phrase('7', i, 'f'), "01-1 160 71-1");
        row("50: phrases go on", 4, i -> "" + overlaid.phrase('8', i, 'p') + overlaid.phrase('8', i, 'l')
                + overlaid.phrase('8', i, 'f'), "01-1 120 331 620");
        TextBurrow several = of("abcabdab");
        row("50: the lowest place", 6, i -> several.phrase('7', i, 'f'), "-1 -1 -1 0 -1 0");
        TextBurrow falling = of("ahagab");
        row("50: the lowest place, of ends that are higher", 7, i -> falling.phrase('7', i, 'f'), "-1 -1 0 -1 0 -1 -1");
        TextBurrow rising = of("abagah");
        row("50: the lowest place, of ends that are lower", 7, i -> rising.phrase('7', i, 'f'), "-1 -1 0 -1 0 -1 -1");
        Due.is("51: literals", burrow::literals, 4);
        Due.is("51: literals of like letters", overlaid::literals, 2);
        Due.is("51: literals without texts", () -> new TextBurrow().literals(), 0);
    }

    private static void pairs() {
        TextBurrow burrow = hand();
        Due.is("52: rules", burrow::rules, 1);
        row("53: rule", 3, i -> burrow.rule(i - 1, i == 1), BOUNDS + " 7 " + BOUNDS);
        Due.is("53: first sign", () -> burrow.rule(0, false), 6);
        row("54: left", 9, i -> burrow.left(i - 1), ELEMENT + " 100 6 100 0 7 6 1 " + ELEMENT);
        row("55: byRules", 10, burrow::byRules, "a b a a b 0 b a 1 IndexOutOfBoundsException");
        Due.is("55: no such place", () -> burrow.byRules(-1), BOUNDS);
        Due.is("52: aaa has no pair twice", () -> of("aaa").rules(), 0);
        TextBurrow four = of("aaaa");
        Due.is("52: aaaa has", four::rules, 1);
        row("54: left of aaaa", 4, four::left, "100 100 0 NoSuchElementException");
        TextBurrow five = of("aaaaa");
        row("54: left of aaaaa, from the left", 5, five::left, "100 100 6 0 NoSuchElementException");
        // cab is there thrice: ca, of several the first, then 100 b, and so cab is 101.
        TextBurrow more = of("cabdcabbcab");
        row("53: rules of rules", 2, i -> more.rule(i, false) + "," + more.rule(i, true), "8,6 100,7");
        row("54: left of rules", 6, more::left, "101 9 101 7 101 0");
        row("55: by rules of rules", 11, more::byRules, "c a b d c a b b c a b");
        // The most often, not the first: ab is there twice, bb, of which none overlaps, three times.
        TextBurrow often = of("abbcabbdbb");
        Due.is("53: the pair that is there the most often", () -> often.rule(0, false) + often.rule(0, true), 14);
        Due.is("52: without texts", () -> new TextBurrow().rules(), 0);
        Due.is("54: without texts", () -> new TextBurrow().left(0), ELEMENT);
        Due.is("55: without texts", () -> new TextBurrow().byRules(0), BOUNDS);
        Due.is("53: without texts", () -> new TextBurrow().rule(0, false), BOUNDS);
    }

    private static void measures() {
        TextBurrow burrow = hand();
        row("56: rooms", 6, i -> burrow.room("pr78gw".charAt(i)), "18 48 56 30 27 68");
        row("56: rooms without texts", 6, i -> new TextBurrow().room("pr78gw".charAt(i)), "0 0 0 0 0 32");
        row("56: rooms of one sign", 6, i -> of("").room("pr78gw".charAt(i)), "1 2 2 2 1 36");
        Due.is("56: no such room", () -> burrow.room('P'), ARGUMENT);
        Due.is("57: least", burrow::least, 'p');
        Due.is("57: least of several", () -> of("").least(), 'p');
        Due.is("57: least without texts", () -> new TextBurrow().least(), 'p');
        TextBurrow alike = of("a");
        alike.repeat(0, 0, 60);
        // 62 signs, two of them different: p 62, r 2 * 7, 7 by three copies of twice 6 bits each.
        row("56: rooms of like letters", 3, i -> alike.room("pr7".charAt(i)), "62 14 36");
        Due.is("57: least of like letters", alike::least, 'r');
        Due.is("58: density", burrow::density, 4.0f);
        Due.is("59: densityBits", burrow::densityBits, 1082130432);
        Due.is("58: density of one sign", () -> of("").density(), 1.0f);
        Due.is("59: densityBits of one sign", () -> of("").densityBits(), 0x3F800000);
        Due.is("58: density without texts", () -> new TextBurrow().density(), 0.0f);
        Due.is("59: densityBits without texts", () -> new TextBurrow().densityBits(), 0);
        // Each piece of four of two letters, and one with the end: 17 by 4.
        TextBurrow fours = of("aaaabaabbababbbbaaa");
        Due.is("58: a broken density", fours::density, 4.25f);
        Due.is("59: bits of a broken density", fours::densityBits, 1082654720);
        // Each piece of three of three letters, and one with the end: 28 by 3.
        TextBurrow threes = of("aaabaacabbabcacbaccbbbcbcccaa");
        Due.is("58: a rounded density", threes::density, 28.0f / 3.0f);
        Due.is("59: bits of a rounded density", threes::densityBits, 0x41155555);
        Due.is("60: meanCommon", burrow::meanCommon, 7.0 / 9.0);
        Due.is("60: meanCommon without texts", () -> new TextBurrow().meanCommon(), ARITHMETIC);
        Due.is("60: meanCommon of one sign", () -> of("").meanCommon(), 0.0);
        long print = 7;
        for (int code : new int[] {7, 6, 7, 7, 6, 1, 6, 0, 6}) {
            print = print * 31 + code;
        }
        Due.is("61: print", burrow::print, print);
        Due.is("61: print without texts", () -> new TextBurrow().print(), 7L);
        Due.is("61: print of one sign", () -> of("").print(), 217L);
    }

    private static void isSoundAlways() {
        Due.is("62: hand", () -> hand().isSound(), true);
        Due.is("62: without texts", () -> new TextBurrow().isSound(), true);
        Due.is("62: six ends", () -> of("", "", "", "", "", "").isSound(), true);
        Random random = new Random(62);
        for (int i = 0; i < 40; i++) {
            TextBurrow burrow = of("", "", "");
            for (int text = 0; text < 3; text++) {
                burrow.draw(text, random.nextInt(9999), 1 + random.nextInt(50), 1 + random.nextInt(8));
            }
            look(burrow, "ab?a".substring(random.nextInt(4)));
            Due.is("62: drawn", burrow::isSound, true);
        }
        Due.is("62: fibonacci", () -> {
            TextBurrow burrow = of("");
            burrow.fibonacci(0, 90);
            burrow.fibonacci(0, 69);
            return burrow.isSound();
        }, true);
    }
}
