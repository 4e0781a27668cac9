import java.util.ArrayList;
import java.util.List;

/** A method that throws changes nothing: a burrow with wrong calls answers as its twin without them. */
public final class ThrowsTest {
    interface Wrong {
        Object of(TextBurrow burrow);
    }

    private static final List<Wrong> WRONGS = new ArrayList<>();
    /** So many wrong calls on one burrow, since the document promises nothing about a burrow's 513th call. */
    private static final int SHARE = 40;

    public static void main(String[] args) {
        listTexts();
        listOthers();
        compare(0, 0);
        compare(2, 0);
        compare(6, 0);
        compare(6, 154);
        compare(1, 159);
        compare(3, 30);
        Due.end();
    }

    private static void listTexts() {
        for (int none : new int[] {-1, 6, Integer.MIN_VALUE, Integer.MAX_VALUE}) {
            WRONGS.add(b -> b.append(none, 'a'));
            WRONGS.add(b -> b.repeat(none, 0, 1));
            WRONGS.add(b -> b.draw(none, 0, 1, 1));
            WRONGS.add(b -> b.fibonacci(none, 1));
            WRONGS.add(b -> b.insert(none, 0, 'a'));
            WRONGS.add(b -> b.remove(none, 0));
            WRONGS.add(b -> b.length(none));
            WRONGS.add(b -> b.letterAt(none, 0));
            WRONGS.add(b -> b.restore(none));
        }
        for (int none : new int[] {-1, 161, Integer.MIN_VALUE, Integer.MAX_VALUE}) {
            WRONGS.add(b -> b.repeat(0, none, 1));
            WRONGS.add(b -> b.repeat(0, 0, none));
            WRONGS.add(b -> b.draw(0, none == 161 ? 10000 : none, 1, 1));
            WRONGS.add(b -> b.draw(0, 0, none, 1));
            WRONGS.add(b -> b.draw(0, 0, 1, none));
            WRONGS.add(b -> b.fibonacci(0, none));
            WRONGS.add(b -> b.insert(0, none, 'a'));
            WRONGS.add(b -> b.remove(0, none));
            WRONGS.add(b -> b.letterAt(0, none));
        }
        WRONGS.add(b -> b.append(0, 'i'));
        WRONGS.add(b -> b.insert(0, 0, (char) 353));
        WRONGS.add(b -> b.sign('i'));
        WRONGS.add(b -> b.setSample(0));
        WRONGS.add(b -> b.setSample(17));
    }

    private static void listOthers() {
        for (int none : new int[] {-1, 161, Integer.MIN_VALUE, Integer.MAX_VALUE}) {
            WRONGS.add(b -> b.rebuilt(none));
            WRONGS.add(b -> b.suffix(none));
            WRONGS.add(b -> b.rankOf(none));
            WRONGS.add(b -> b.turned(none));
            WRONGS.add(b -> b.common(none));
            WRONGS.add(b -> b.commonAnew(none));
            WRONGS.add(b -> b.back(none));
            WRONGS.add(b -> b.walk(none));
            WRONGS.add(b -> b.ones(none, 0));
            WRONGS.add(b -> b.ones(0, none));
            WRONGS.add(b -> b.rank(none, 0));
            WRONGS.add(b -> b.rank(0, none));
            WRONGS.add(b -> b.select(none, 1));
            WRONGS.add(b -> b.select(6, none));
            WRONGS.add(b -> b.quantile(none, 0, 0));
            WRONGS.add(b -> b.quantile(0, none, 0));
            WRONGS.add(b -> b.quantile(0, 0, none));
            WRONGS.add(b -> b.below(none, 0, 0));
            WRONGS.add(b -> b.below(0, none, 0));
            WRONGS.add(b -> b.below(0, 0, none));
            WRONGS.add(b -> b.most(none, 0));
            WRONGS.add(b -> b.most(0, none));
            WRONGS.add(b -> b.at(none));
            WRONGS.add(b -> b.matching(none));
            WRONGS.add(b -> b.near(none));
            WRONGS.add(b -> b.nearAnew(none));
            WRONGS.add(b -> b.inText(none));
            WRONGS.add(b -> b.listed(none));
            WRONGS.add(b -> b.node(none, 'd'));
            WRONGS.add(b -> b.distinct(none));
            WRONGS.add(b -> b.distinctAnew(none));
            WRONGS.add(b -> b.phrase('7', none, 'p'));
            WRONGS.add(b -> b.rule(none, true));
            WRONGS.add(b -> b.left(none));
            WRONGS.add(b -> b.byRules(none));
        }
        WRONGS.add(b -> b.node(0, 'x'));
        WRONGS.add(b -> b.phrases('x'));
        WRONGS.add(b -> b.phrase('x', 0, 'p'));
        WRONGS.add(b -> b.room('x'));
    }

    private static TextBurrow made(int texts, int letters) {
        TextBurrow burrow = new TextBurrow();
        for (int text = 0; text < texts; text++) {
            burrow.newText();
        }
        for (int i = 0; i < letters; i++) {
            burrow.append(i % texts, (char) ('a' + i * i % 7 % 4));
        }
        burrow.snapshot();
        burrow.sign('b');
        burrow.setSample(5);
        return burrow;
    }

    private static void compare(int texts, int letters) {
        for (int first = 0; first < WRONGS.size(); first += SHARE) {
            compare(texts, letters, WRONGS.subList(first, Math.min(first + SHARE, WRONGS.size())));
        }
    }

    private static void compare(int texts, int letters, List<Wrong> wrongs) {
        TextBurrow one = made(texts, letters);
        TextBurrow twin = made(texts, letters);
        for (int i = 0; i < wrongs.size(); i++) {
            Wrong wrong = wrongs.get(i);
            Due.isEqual("wrong call " + i, Calls.isException(Due.answer(() -> wrong.of(one))), true);
        }
        if (texts + letters == 160) {
            for (Wrong full : new Wrong[] {b -> b.append(0, 'a'), b -> b.repeat(0, 0, 1), b -> b.draw(0, 0, 1, 1),
                b -> b.fibonacci(0, 1), b -> b.insert(0, 0, 'a'), b -> b.newText()}) {
                Due.is("a full whole", () -> full.of(one), "IllegalStateException");
            }
        }
        Due.isEqual("after all wrong calls", told(one), told(twin));
        boolean isMore = true;
        while (isMore) {
            Object undone = Due.answer(twin::undo);
            Due.is("undo of what is kept", one::undo, undone);
            Due.is("after an undo", one::print, twin.print());
            isMore = undone instanceof Integer;
        }
        Due.is("wipe", one::wipe, twin.wipe());
        Due.is("setSample", () -> one.setSample(1), twin.setSample(1));
        Due.is("snapshot", one::snapshot, twin.snapshot());
    }

    private static String told(TextBurrow burrow) {
        StringBuilder told = new StringBuilder();
        told.append(burrow.texts()).append(' ').append(burrow.whole()).append(' ').append(burrow.print());
        told.append(' ').append(burrow.count()).append(' ').append(burrow.near(1)).append(' ').append(burrow.nodes());
        told.append(' ').append(burrow.room('g')).append(' ').append(burrow.phrases('7'));
        int whole = burrow.whole();
        for (int place = 0; place < whole; place++) {
            told.append(' ').append(burrow.rebuilt(place));
        }
        return told.toString();
    }
}
