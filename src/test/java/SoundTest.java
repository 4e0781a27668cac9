import java.lang.reflect.Field;
import java.lang.reflect.Method;

/**
 * Promise 62 from within: no call can make a burrow unsound, so the rows of its indexes are spoilt here, one number
 * at a time, and isSound, or the part of it that looks at such rows, must find each.
 */
public final class SoundTest {
    private static final String[] TEXTS = {"abaababcab", "", "cabab"};
    private static final int WHOLE = 18;

    public static void main(String[] args) throws Exception {
        everySignAgain();
        everyCommon();
        everySignLeft();
        everyBlock();
        phrases("copies");
        phrases("growth");
        errors("ba", "a", 0, 7);
        errors("aaa", "bbb", 2, 0);
        densities();
        Due.end();
    }

    /** The burrow's indexes are those of its texts, so that it does not make them anew when asked once more. */
    private static TextBurrow sound(String pattern, String... texts) {
        TextBurrow burrow = new TextBurrow();
        for (String text : texts) {
            int number = burrow.newText();
            for (char letter : text.toCharArray()) {
                burrow.append(number, letter);
            }
        }
        for (char sign : pattern.toCharArray()) {
            burrow.sign(sign);
        }
        Due.is("62: sound", burrow::isSound, true);
        return burrow;
    }

    private static Object of(Object owner, String name) throws Exception {
        Field field = fieldOf(owner.getClass(), name);
        field.setAccessible(true);
        return field.get(owner);
    }

    private static Field fieldOf(Class<?> owner, String name) throws Exception {
        try {
            return owner.getDeclaredField(name);
        } catch (NoSuchFieldException e) {
            return owner.getSuperclass().getDeclaredField(name);
        }
    }

    private static int[] row(TextBurrow burrow, String index, String name) throws Exception {
        return (int[]) of(of(burrow, index), name);
    }

    private static int number(TextBurrow burrow, String index, String name) throws Exception {
        return (Integer) of(of(burrow, index), name);
    }

    private static void setNumber(TextBurrow burrow, String index, String name, int number) throws Exception {
        Object owner = of(burrow, index);
        Field field = fieldOf(owner.getClass(), name);
        field.setAccessible(true);
        field.setInt(owner, number);
    }

    private static Object part(TextBurrow burrow, String name) throws Exception {
        Method method = TextBurrow.class.getDeclaredMethod(name);
        method.setAccessible(true);
        return method.invoke(burrow);
    }

    /** With another number at a place of a row, the burrow is unsound, and with the first one sound again. */
    private static void spoilt(TextBurrow burrow, String what, int[] row, int place, int other) {
        int before = row[place];
        row[place] = other;
        Due.is("62: " + what + " " + place + " is " + other + ", not " + before, burrow::isSound, false);
        row[place] = before;
        Due.is("62: " + what + " " + place + " as it was", burrow::isSound, true);
    }

    private static void everySignAgain() throws Exception {
        TextBurrow burrow = sound("", TEXTS);
        int[] again = row(burrow, "order", "again");
        for (int place = 0; place < WHOLE; place++) {
            spoilt(burrow, "rebuilt", again, place, (again[place] + 1) % 14);
        }
    }

    private static void everyCommon() throws Exception {
        TextBurrow burrow = sound("", TEXTS);
        int[] alike = row(burrow, "order", "alike");
        for (int rank = 0; rank < WHOLE; rank++) {
            spoilt(burrow, "common", alike, rank, alike[rank] + 1);
        }
    }

    private static void everySignLeft() throws Exception {
        TextBurrow burrow = sound("", TEXTS);
        int[] line = row(burrow, "pairs", "line");
        int left = number(burrow, "pairs", "size");
        for (int i = 0; i < left; i++) {
            spoilt(burrow, "left", line, i, line[i] == 9 ? 10 : 9);
        }
        spoilt(burrow, "rule", row(burrow, "pairs", "seconds"), 0, 13);
    }

    private static void everyBlock() throws Exception {
        TextBurrow burrow = sound("", TEXTS);
        int[][] blocks = (int[][]) of(of(burrow, "rows"), "blocks");
        int[][] before = (int[][]) of(of(burrow, "rows"), "onesBefore");
        for (int row = 0; row < 4; row++) {
            for (int place = 0; place < WHOLE; place++) {
                // A block's last bit is told by the number of 1s ahead of the next block.
                if (place % 16 < 15) {
                    spoilt(burrow, "bits of row " + row, blocks[row], place / 16,
                            blocks[row][place / 16] ^ 1 << place % 16);
                }
            }
            spoilt(burrow, "1s ahead in row " + row, before[row], 1, before[row][1] + 1);
        }
    }

    private static void phrases(String parse) throws Exception {
        TextBurrow burrow = sound("", TEXTS);
        int[] places = row(burrow, parse, "places");
        int[] sizes = row(burrow, parse, "sizes");
        int[] sources = row(burrow, parse, "sources");
        int many = number(burrow, parse, "many");
        for (int i = 0; i < many; i++) {
            spoilt(burrow, parse + " place", places, i, places[i] + 1);
            spoilt(burrow, parse + " length", sizes, i, sizes[i] + 1);
            spoilt(burrow, parse + " length", sizes, i, sizes[i] - 1);
            spoilt(burrow, parse + " source", sources, i, parse.equals("copies") ? places[i] : i);
            // One sign alone makes the whole just as well as a copy of one.
            if (sources[i] < 0 || sizes[i] > 1) {
                spoilt(burrow, parse + " source", sources, i, sources[i] < 0 ? 0 : -1);
            }
        }
        setNumber(burrow, parse, "many", many - 1);
        Due.is("62: a phrase of " + parse + " less", burrow::isSound, false);
    }

    /** With this code in the turned text, the pattern is counted wrongly for just one number of errors. */
    private static void errors(String text, String pattern, int rank, int code) throws Exception {
        TextBurrow burrow = sound(pattern, text);
        row(burrow, "order", "turn")[rank] = code;
        int unlike = 0;
        for (int errors = 0; errors <= 3; errors++) {
            unlike += burrow.near(errors) == burrow.nearAnew(errors) ? 0 : 1;
        }
        Due.isEqual("62: numbers of errors for which " + pattern + " is miscounted", unlike, 1);
        Due.isEqual("62: " + pattern + " miscounted", part(burrow, "isFoundAnew"), false);
        Due.is("62: " + pattern + " miscounted in all", burrow::isSound, false);
        burrow.wipe();
        Due.isEqual("62: no pattern, no count", part(burrow, "isFoundAnew"), true);
    }

    /** The density of all a, and an end, is 2, which may be as many as there are phrases or runs, but no more. */
    private static void densities() throws Exception {
        TextBurrow burrow = sound("", "aaaaa");
        setNumber(burrow, "copies", "many", 2);
        Due.isEqual("62: a density of 2, and 2 phrases", part(burrow, "isDensityLow"), true);
        setNumber(burrow, "copies", "many", 1);
        Due.isEqual("62: a density of 2, and 1 phrase", part(burrow, "isDensityLow"), false);
        TextBurrow other = sound("", "aaaaa");
        Due.is("62: a density of 2, and 2 runs", other::runs, 2);
        Due.isEqual("62: a density of 2, and 2 runs, is low", part(other, "isDensityLow"), true);
        row(other, "order", "turn")[5] = 6;
        Due.is("62: one run", other::runs, 1);
        Due.isEqual("62: a density of 2, and 1 run", part(other, "isDensityLow"), false);
    }
}
