import java.util.Arrays;
import java.util.Random;
import java.util.Set;
import java.util.TreeSet;

/** The kinds of wholes at which runs are made. */
enum WholeKind {
    EMPTY(2, "append repeat draw fibonacci insert remove length letterAt rebuilt suffix rankOf turned common commonAnew "
            + "back walk select quantile most at firstRank inText listed top node phrase rule left byRules "
            + "meanCommon") {
        @Override
        boolean has(String whole) {
            return whole.isEmpty();
        }

        @Override
        void make(Random random, CallMaker maker) {
            // A new object's whole is empty.
        }
    },
    SHORT(3, "") {
        @Override
        boolean has(String whole) {
            return whole.length() >= 1 && whole.length() <= 12 && !whole.endsWith("5");
        }

        @Override
        void make(Random random, CallMaker maker) {
            int texts = 1 + random.nextInt(3);
            for (int text = 0; text < texts; text++) {
                maker.make("newText");
                int letters = random.nextInt(4);
                if (letters > 0) {
                    maker.make("draw", text, random.nextInt(10000), letters, 1 + random.nextInt(3));
                }
            }
        }
    },
    ONE_LETTER(2, "newText append repeat draw fibonacci insert") {
        @Override
        boolean has(String whole) {
            return whole.length() == 160 && whole.chars().distinct().count() == 2;
        }

        @Override
        void make(Random random, CallMaker maker) {
            maker.make("newText");
            maker.make("append", 0, (char) ('a' + random.nextInt(2)));
            maker.make("repeat", 0, 0, 60);
            maker.make("repeat", 0, random.nextInt(50), 60);
            maker.make("repeat", 0, 0, 38);
        }
    },
    MANY_LETTERS(8, "newText append repeat draw fibonacci insert") {
        @Override
        boolean has(String whole) {
            return whole.length() == 160 && whole.replaceAll("[0-5]", "").chars().distinct().count() == 8
                    && !whole.endsWith("5");
        }

        @Override
        void make(Random random, CallMaker maker) {
            maker.make("newText");
            maker.make("draw", 0, random.nextInt(10000), 60, 8);
            int texts = 1 + random.nextInt(2);
            if (texts == 2) {
                maker.make("newText");
            }
            maker.make("draw", texts - 1, random.nextInt(10000), 60, 8);
            maker.make("draw", 0, random.nextInt(10000), 40 - texts, 8);
        }
    },
    SIX_TEXTS(3, "newText") {
        @Override
        boolean has(String whole) {
            return whole.endsWith("5");
        }

        @Override
        void make(Random random, CallMaker maker) {
            boolean isFull = random.nextInt(3) == 0;
            int most = random.nextBoolean() ? 4 : 26;
            for (int text = 0; text < 6; text++) {
                maker.make("newText");
                int letters = isFull ? text == 5 ? 29 : 25 : random.nextInt(most);
                if (letters > 0) {
                    maker.make("draw", text, random.nextInt(10000), letters, 1 + random.nextInt(3));
                }
            }
        }
    };

    /** Makes a call by its name. */
    interface CallMaker {
        Object make(String call, Object... arguments);
    }

    /** Of how many letters drawn calls are. */
    final int letters;
    private final String never;

    WholeKind(int letters, String never) {
        this.letters = letters;
        this.never = never;
    }

    abstract boolean has(String whole);

    abstract void make(Random random, CallMaker maker);

    /** The methods that cannot but throw at each whole of this kind. */
    Set<String> never() {
        Set<String> names = new TreeSet<>(Arrays.asList(never.split(" ")));
        names.remove("");
        return names;
    }
}
