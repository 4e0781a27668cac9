import java.util.Arrays;
import java.util.NoSuchElementException;

/**
 * Up to six texts that are searched through an index of their whole.
 *
 * <p>The whole is the only state that changes; every index is made anew from it, and only when a call asks
 * for it, in rows that are made once, by the constructor.
 */
public final class TextBurrow {
    private static final int MOST_TEXTS = 6;
    private static final int MOST_SIGNS = 160;
    private static final int MOST_PATTERN = 20;
    private static final int MOST_CHANGES = 20;
    private static final int MOST_SNAPSHOTS = 8;
    private static final int MOST_ERRORS = 3;
    private static final int MOST_PUT = 60;
    private static final int MOST_FIBONACCI = 90;
    private static final int MOST_SEED = 9999;
    private static final int MOST_SAMPLE = 16;
    /** The codes below this one are ends, the others letters. */
    private static final int LETTER = 6;
    private static final int LETTERS = 8;
    private static final int CODES = 14;
    /** In the pattern, a '?'. */
    private static final int WILD = -1;
    private static final int ROWS = 4;
    /** Places in a block of a row are told by the low four bits, blocks by the others. */
    private static final int BLOCK_BITS = 4;
    private static final int BLOCK = 16;
    private static final int MOST_BLOCKS = 11;
    private static final int BLOCK_ROOM = 8;
    /** Each rule takes two signs or more out of the whole, so no more than these can come about. */
    private static final int MOST_RULES = 80;
    private static final int RULE_TOLD = 100;

    private final Whole whole = new Whole();
    private final History history = new History();
    private final Order order = new Order();
    private final Rows rows = new Rows();
    private final Search search = new Search();
    private final Tree tree = new Tree();
    private final Copies copies = new Copies();
    private final Growth growth = new Growth();
    private final Pairs pairs = new Pairs();
    private final Pieces pieces = new Pieces();
    private int sample = 4;

    public TextBurrow() {
    }

    // ---- texts

    public int newText() throws IllegalStateException {
        if (whole.textsNow() >= MOST_TEXTS) {
            throw new IllegalStateException("there are six texts");
        }
        needSpace(1);
        history.keep(whole);
        int number = whole.textsNow();
        whole.putIn(whole.size, number);
        return number;
    }

    public int append(int text, char letter)
            throws IndexOutOfBoundsException, IllegalArgumentException, IllegalStateException {
        needText(text);
        needLetter(letter);
        needSpace(1);
        history.keep(whole);
        whole.putIn(whole.endOf(text), codeOf(letter));
        return whole.lettersOf(text);
    }

    public int repeat(int text, int from, int count)
            throws IndexOutOfBoundsException, IllegalArgumentException, IllegalStateException {
        needText(text);
        needPlace(from, whole.lettersOf(text) - 1);
        needRange(count, 1, MOST_PUT);
        needSpace(count);
        history.keep(whole);
        int source = whole.startOf(text) + from;
        int target = whole.endOf(text);
        for (int i = 0; i < count; i++) {
            whole.putIn(target + i, whole.codeAt(source + i));
        }
        return whole.lettersOf(text);
    }

    public int draw(int text, int seed, int count, int letters)
            throws IndexOutOfBoundsException, IllegalArgumentException, IllegalStateException {
        needText(text);
        needRange(seed, 0, MOST_SEED);
        needRange(count, 1, MOST_PUT);
        needRange(letters, 1, LETTERS);
        needSpace(count);
        history.keep(whole);
        int target = whole.endOf(text);
        int number = seed;
        for (int i = 0; i < count; i++) {
            number = (75 * number + 74) % 65537;
            whole.putIn(target + i, LETTER + number % letters);
        }
        return whole.lettersOf(text);
    }

    public int fibonacci(int text, int count)
            throws IndexOutOfBoundsException, IllegalArgumentException, IllegalStateException {
        needText(text);
        needRange(count, 1, MOST_FIBONACCI);
        needSpace(count);
        history.keep(whole);
        int target = whole.endOf(text);
        // The word of the length `form` is followed by the one ahead of it, which begins as the word itself.
        int form = 2;
        int ahead = 1;
        for (int i = 0; i < count; i++) {
            if (i == form + ahead) {
                form = form + ahead;
                ahead = i - ahead;
            }
            whole.putIn(target + i, i < 2 ? LETTER + i : whole.codeAt(target + i - form));
        }
        return whole.lettersOf(text);
    }

    public int insert(int text, int at, char letter)
            throws IndexOutOfBoundsException, IllegalArgumentException, IllegalStateException {
        needText(text);
        needPlace(at, whole.lettersOf(text));
        needLetter(letter);
        needSpace(1);
        history.keep(whole);
        whole.putIn(whole.startOf(text) + at, codeOf(letter));
        return whole.lettersOf(text);
    }

    public char remove(int text, int at) throws IndexOutOfBoundsException, IllegalArgumentException {
        needText(text);
        needPlace(at, whole.lettersOf(text) - 1);
        history.keep(whole);
        return signOf(whole.takeOut(whole.startOf(text) + at));
    }

    public int undo() throws NoSuchElementException {
        if (history.changes < 1) {
            throw new NoSuchElementException("no change is kept");
        }
        history.takeBack(whole);
        return history.changes;
    }

    public int snapshot() throws IllegalStateException {
        if (history.snapshots >= MOST_SNAPSHOTS) {
            throw new IllegalStateException("there are eight snapshots");
        }
        return history.takeSnapshot(whole);
    }

    public int restore(int snapshot) throws IndexOutOfBoundsException {
        if (snapshot < 0 || snapshot >= history.snapshots) {
            throw new IndexOutOfBoundsException("no such snapshot");
        }
        history.keep(whole);
        history.bringBack(snapshot, whole);
        return whole.textsNow();
    }

    public int texts() {
        return whole.textsNow();
    }

    public int length(int text) throws IndexOutOfBoundsException {
        needText(text);
        return whole.lettersOf(text);
    }

    public char letterAt(int text, int at) throws IndexOutOfBoundsException, NoSuchElementException {
        needText(text);
        if (at < 0 || at >= whole.lettersOf(text)) {
            throw new NoSuchElementException("no such place in the text");
        }
        return signOf(whole.codeAt(whole.startOf(text) + at));
    }

    public int whole() {
        return whole.size;
    }

    public char rebuilt(int place) throws IndexOutOfBoundsException {
        needIndex(place, whole.size);
        return signOf(sorted().again[place]);
    }

    // ---- order

    public int suffix(int rank) throws IndexOutOfBoundsException {
        needIndex(rank, whole.size);
        return sorted().placeOf[rank];
    }

    public int rankOf(int place) throws IndexOutOfBoundsException {
        needIndex(place, whole.size);
        return sorted().rankAt[place];
    }

    public char turned(int rank) throws IndexOutOfBoundsException {
        needIndex(rank, whole.size);
        return signOf(sorted().turn[rank]);
    }

    public int common(int rank) throws IndexOutOfBoundsException {
        needIndex(rank, whole.size);
        return sorted().alike[rank];
    }

    public int commonAnew(int rank) throws IndexOutOfBoundsException {
        needIndex(rank, whole.size);
        return sorted().alikeAnew(whole, rank);
    }

    public int back(int rank) throws IndexOutOfBoundsException {
        needIndex(rank, whole.size);
        return sorted().ahead[rank];
    }

    public int setSample(int every) throws IllegalArgumentException {
        needRange(every, 1, MOST_SAMPLE);
        int before = sample;
        sample = every;
        return before;
    }

    public int walk(int rank) throws IndexOutOfBoundsException {
        needIndex(rank, whole.size);
        return sorted().stepsToSample(rank, sample);
    }

    // ---- bits

    public int ones(int row, int to) throws IndexOutOfBoundsException {
        needIndex(row, ROWS);
        needIndex(to, whole.size + 1);
        return bits().onesAhead(row, to);
    }

    public int rank(int code, int to) throws IllegalArgumentException, IndexOutOfBoundsException {
        needRange(code, 0, CODES - 1);
        needIndex(to, whole.size + 1);
        return bits().oftenAhead(code, to);
    }

    public int select(int code, int count) throws IllegalArgumentException, NoSuchElementException {
        needRange(code, 0, CODES - 1);
        Rows now = bits();
        if (count < 1 || count > now.oftenAhead(code, whole.size)) {
            throw new NoSuchElementException("the sign is not there so often");
        }
        return now.rankWith(code, count);
    }

    public int quantile(int from, int to, int index) throws IndexOutOfBoundsException, NoSuchElementException {
        needRanks(from, to);
        needElement(index, to - from);
        return bits().inOrder(from, to, index);
    }

    public int below(int from, int to, int code) throws IndexOutOfBoundsException, IllegalArgumentException {
        needRanks(from, to);
        needRange(code, 0, CODES);
        return bits().lowerBetween(from, to, code);
    }

    public int most(int from, int to) throws IndexOutOfBoundsException, NoSuchElementException {
        needRanks(from, to);
        int code = bits().majority(from, to);
        if (code < 0) {
            throw new NoSuchElementException("no sign is there so often");
        }
        return code;
    }

    // ---- search

    public int sign(char sign) throws IllegalArgumentException, IllegalStateException {
        if (sign != '?') {
            needLetter(sign);
        }
        if (search.size >= MOST_PATTERN) {
            throw new IllegalStateException("the pattern is full");
        }
        search.lengthen(sign == '?' ? WILD : codeOf(sign));
        return search.size;
    }

    public int wipe() {
        int before = search.size;
        search.shorten();
        return before;
    }

    public int count() throws UnsupportedOperationException {
        needPattern();
        return search.goBack(sorted(), 0);
    }

    public int countAnew() throws UnsupportedOperationException {
        needPattern();
        return search.lookAtAll(whole, 0);
    }

    public int at(int index) throws UnsupportedOperationException, NoSuchElementException {
        needPattern();
        needElement(index, search.findPlaces(sorted()));
        return search.placeWith(index, whole.size);
    }

    public int firstRank() throws UnsupportedOperationException, NoSuchElementException {
        needPlainPattern();
        if (search.goBack(sorted(), 0) < 1) {
            throw new NoSuchElementException("the pattern is nowhere");
        }
        return search.lows[0];
    }

    public int matching(int from) throws UnsupportedOperationException, IndexOutOfBoundsException {
        needPlainPattern();
        needIndex(from, search.size);
        return search.longestFrom(whole, from);
    }

    public int near(int errors) throws UnsupportedOperationException, IllegalArgumentException {
        needPattern();
        needRange(errors, 0, MOST_ERRORS);
        return search.goBack(sorted(), errors);
    }

    public int nearAnew(int errors) throws UnsupportedOperationException, IllegalArgumentException {
        needPattern();
        needRange(errors, 0, MOST_ERRORS);
        return search.lookAtAll(whole, errors);
    }

    public int inText(int text) throws UnsupportedOperationException, IndexOutOfBoundsException {
        needPattern();
        needText(text);
        search.findPlaces(sorted());
        return placesIn(text);
    }

    public int listed(int index) throws UnsupportedOperationException, NoSuchElementException {
        needPattern();
        search.findPlaces(sorted());
        int seen = 0;
        for (int text = 0; text < whole.textsNow(); text++) {
            if (placesIn(text) > 0) {
                if (seen == index) {
                    return text;
                }
                seen++;
            }
        }
        throw new NoSuchElementException("not so many texts have the pattern");
    }

    public int top() throws UnsupportedOperationException, NoSuchElementException {
        needPattern();
        search.findPlaces(sorted());
        int best = -1;
        int most = 0;
        for (int text = 0; text < whole.textsNow(); text++) {
            int places = placesIn(text);
            if (places > most) {
                most = places;
                best = text;
            }
        }
        if (best < 0) {
            throw new NoSuchElementException("the pattern is nowhere");
        }
        return best;
    }

    // ---- tree

    public int nodes() {
        return grown().many;
    }

    public int node(int node, char what) throws IndexOutOfBoundsException, IllegalArgumentException {
        Tree now = grown();
        needIndex(node, now.many);
        int slot = now.slotOf(node);
        switch (what) {
            case 'd':
                return now.depths[slot];
            case 'f':
                return now.firsts[slot];
            case 'l':
                return now.widths[slot];
            case 'p':
                return now.parents[slot];
            case 'c':
                return now.children[slot];
            default:
                throw new IllegalArgumentException("no such thing of a node");
        }
    }

    public int longestRepeat() {
        return grown().deepest();
    }

    public int distinct(int size) throws IllegalArgumentException {
        needRange(size, 0, MOST_SIGNS);
        return size == 0 ? pieces.ofLettersAll(sorted()) : pieces.ofLetters(sorted(), size);
    }

    public int distinctAnew(int size) throws IllegalArgumentException {
        needRange(size, 1, MOST_SIGNS);
        return pieces.ofLettersAnew(whole, sorted(), size);
    }

    public int runs() {
        return sorted().runsNow();
    }

    // ---- parses

    public int phrases(char parse) throws IllegalArgumentException {
        needParse(parse);
        return cut(parse).many;
    }

    public int phrase(char parse, int index, char what) throws IllegalArgumentException, IndexOutOfBoundsException {
        needParse(parse);
        if (what != 'p' && what != 'l' && what != 'f') {
            throw new IllegalArgumentException("no such thing of a phrase");
        }
        Parse now = cut(parse);
        needIndex(index, now.many);
        if (what == 'p') {
            return now.places[index];
        }
        return what == 'l' ? now.sizes[index] : now.sources[index];
    }

    public int literals() {
        return cut('7').withoutSource();
    }

    public int rules() {
        return paired().many;
    }

    public int rule(int rule, boolean isSecond) throws IndexOutOfBoundsException {
        Pairs now = paired();
        needIndex(rule, now.many);
        return told(isSecond ? now.seconds[rule] : now.firsts[rule]);
    }

    public int left(int index) throws NoSuchElementException {
        Pairs now = paired();
        needElement(index, now.size);
        return told(now.line[index]);
    }

    public char byRules(int place) throws IndexOutOfBoundsException {
        needIndex(place, whole.size);
        return signOf(paired().codeDown(place));
    }

    // ---- room and measures

    public int room(char what) throws IllegalArgumentException {
        int bits = roomFor(what);
        if (bits < 0) {
            throw new IllegalArgumentException("no such room");
        }
        return bits;
    }

    public char least() {
        String all = "pr78gw";
        char best = 'p';
        int bits = roomFor(best);
        for (int i = 1; i < all.length(); i++) {
            int other = roomFor(all.charAt(i));
            if (other < bits) {
                bits = other;
                best = all.charAt(i);
            }
        }
        return best;
    }

    public float density() {
        return pieces.densest(sorted());
    }

    public int densityBits() {
        return pieces.bitsOf(pieces.densest(sorted()));
    }

    public double meanCommon() throws ArithmeticException {
        if (whole.size < 1) {
            throw new ArithmeticException("there are no texts");
        }
        return (double) sorted().alikeAll() / (double) whole.size;
    }

    public long print() {
        Order now = sorted();
        long print = 7;
        for (int i = 0; i < now.size; i++) {
            print = 31 * print + now.turn[i];
        }
        return print;
    }

    public boolean isSound() {
        return isWholeTold() && isFoundAnew() && areParsesWhole() && bits().isUndone(order) && isDensityLow();
    }

    // ---- what must hold for a call

    private void needText(int text) {
        if (text < 0 || text >= whole.textsNow()) {
            throw new IndexOutOfBoundsException("no such text");
        }
    }

    private static void needIndex(int index, int many) {
        if (index < 0 || index >= many) {
            throw new IndexOutOfBoundsException("no such index");
        }
    }

    private void needRanks(int from, int to) {
        if (from < 0 || to < from || to > whole.size) {
            throw new IndexOutOfBoundsException("no such ranks");
        }
    }

    private static void needElement(int index, int many) {
        if (index < 0 || index >= many) {
            throw new NoSuchElementException("not so many");
        }
    }

    private static void needPlace(int place, int last) {
        if (place < 0 || place > last) {
            throw new IllegalArgumentException("no such place in the text");
        }
    }

    private static void needRange(int number, int least, int most) {
        if (number < least || number > most) {
            throw new IllegalArgumentException("a number is out of range");
        }
    }

    private static void needLetter(char letter) {
        if (letter < 'a' || letter > 'h') {
            throw new IllegalArgumentException("no such letter");
        }
    }

    private static void needParse(char parse) {
        if (parse != '7' && parse != '8') {
            throw new IllegalArgumentException("no such parse");
        }
    }

    private void needSpace(int more) {
        if (whole.size + more > MOST_SIGNS) {
            throw new IllegalStateException("the whole would be too long");
        }
    }

    private void needPattern() {
        if (search.size < 1) {
            throw new UnsupportedOperationException("the pattern is empty");
        }
    }

    private void needPlainPattern() {
        if (search.size < 1 || search.hasWild()) {
            throw new UnsupportedOperationException("the pattern is empty or wild");
        }
    }

    // ---- the indexes as the texts are now

    private Order sorted() {
        order.renew(whole);
        return order;
    }

    private Rows bits() {
        rows.renew(sorted());
        return rows;
    }

    private Tree grown() {
        tree.renew(sorted());
        return tree;
    }

    private Parse cut(char parse) {
        Parse chosen = parse == '7' ? copies : growth;
        order.renew(whole);
        chosen.renew(whole, order);
        return chosen;
    }

    private Pairs paired() {
        pairs.renew(whole);
        return pairs;
    }

    // ---- what several calls share

    private static int codeOf(char letter) {
        return LETTER + (letter - 'a');
    }

    private static char signOf(int code) {
        return (char) (code < LETTER ? '0' + code : 'a' + (code - LETTER));
    }

    /** Within the pairs, rules follow the codes at once, so that a table can be kept for all signs. */
    private static int told(int sign) {
        return sign < CODES ? sign : RULE_TOLD + (sign - CODES);
    }

    /** Among the places that were found. */
    private int placesIn(int text) {
        int many = 0;
        int end = whole.endOf(text);
        for (int place = whole.startOf(text); place < end; place++) {
            many += search.isFound(place) ? 1 : 0;
        }
        return many;
    }

    private static int bitsFor(int things) {
        int bits = 1;
        while (bits < 30 && (1 << bits) < things) {
            bits++;
        }
        return bits;
    }

    /** The room in bits, or -1 if there is no such room. */
    private int roomFor(char what) {
        int size = whole.size;
        int forSign = bitsFor(sorted().differentSigns());
        switch (what) {
            case 'p':
                return size * forSign;
            case 'r':
                return order.runsNow() * (forSign + bitsFor(size));
            case '7':
                return cut('7').many * 2 * bitsFor(size + 1);
            case '8':
                int many = cut('8').many;
                return many * (bitsFor(many + 1) + forSign);
            case 'g':
                Pairs now = paired();
                return (2 * now.many + now.size) * bitsFor(order.differentSigns() + now.many);
            case 'w':
                return ROWS * size + ROWS * BLOCK_ROOM * ((size >> BLOCK_BITS) + 1);
            default:
                return -1;
        }
    }

    // ---- soundness

    private boolean isWholeTold() {
        Order now = sorted();
        Pairs ruled = paired();
        for (int place = 0; place < whole.size; place++) {
            int code = whole.codeAt(place);
            if (now.again[place] != code || ruled.codeDown(place) != code) {
                return false;
            }
        }
        return true;
    }

    private boolean isFoundAnew() {
        Order now = sorted();
        for (int rank = 0; rank < now.size; rank++) {
            if (now.alike[rank] != now.alikeAnew(whole, rank)) {
                return false;
            }
        }
        for (int errors = 0; search.size > 0 && errors <= MOST_ERRORS; errors++) {
            if (search.goBack(now, errors) != search.lookAtAll(whole, errors)) {
                return false;
            }
        }
        return true;
    }

    private boolean areParsesWhole() {
        return cut('7').makesWhole(whole) && cut('8').makesWhole(whole);
    }

    private boolean isDensityLow() {
        float density = pieces.densest(sorted());
        return density <= (float) cut('7').many && density <= (float) order.runsNow();
    }

    /** The codes of all texts, each with its end behind it. */
    private static final class Whole {
        final int[] signs = new int[MOST_SIGNS];
        int size;
        /** Tells the indexes whether they are those of these texts. */
        int version;

        int textsNow() {
            // The last sign is the end of the last text, and its code is the number of that text.
            return size > 0 ? signs[size - 1] + 1 : 0;
        }

        int codeAt(int place) {
            return place >= 0 && place < size ? signs[place] : 0;
        }

        int startOf(int text) {
            return text > 0 ? endOf(text - 1) + 1 : 0;
        }

        int endOf(int text) {
            int place = 0;
            while (place < size && signs[place] != text) {
                place++;
            }
            return place;
        }

        int lettersOf(int text) {
            return endOf(text) - startOf(text);
        }

        void putIn(int place, int code) {
            if (size >= MOST_SIGNS || place < 0 || place > size) {
                return;
            }
            System.arraycopy(signs, place, signs, place + 1, size - place);
            signs[place] = code;
            size++;
            version++;
        }

        int takeOut(int place) {
            if (place < 0 || place >= size) {
                return 0;
            }
            int code = signs[place];
            System.arraycopy(signs, place + 1, signs, place, size - place - 1);
            size--;
            version++;
            return code;
        }
    }

    /** Wholes of earlier times: those ahead of the latest changes, in a ring, and those of snapshots. */
    private static final class History {
        final int[][] wholes = new int[MOST_CHANGES + MOST_SNAPSHOTS][MOST_SIGNS];
        final int[] sizes = new int[MOST_CHANGES + MOST_SNAPSHOTS];
        int oldest;
        int changes;
        int snapshots;

        void keep(Whole whole) {
            if (changes >= MOST_CHANGES) {
                oldest = (oldest + 1) % MOST_CHANGES;
                changes--;
            }
            save((oldest + changes) % MOST_CHANGES, whole);
            changes++;
        }

        void takeBack(Whole whole) {
            changes--;
            load((oldest + changes) % MOST_CHANGES, whole);
        }

        int takeSnapshot(Whole whole) {
            save(MOST_CHANGES + snapshots, whole);
            snapshots++;
            return snapshots - 1;
        }

        void bringBack(int snapshot, Whole whole) {
            load(MOST_CHANGES + snapshot, whole);
        }

        private void save(int slot, Whole whole) {
            if (slot >= 0 && slot < sizes.length) {
                System.arraycopy(whole.signs, 0, wholes[slot], 0, whole.size);
                sizes[slot] = whole.size;
            }
        }

        private void load(int slot, Whole whole) {
            if (slot >= 0 && slot < sizes.length) {
                System.arraycopy(wholes[slot], 0, whole.signs, 0, sizes[slot]);
                whole.size = sizes[slot];
                whole.version++;
            }
        }
    }

    /** The sorted ends of the whole and the turned text. */
    private static final class Order {
        final int[] placeOf = new int[MOST_SIGNS];
        final int[] rankAt = new int[MOST_SIGNS];
        final int[] alike = new int[MOST_SIGNS];
        final int[] turn = new int[MOST_SIGNS];
        /** For each rank, that of the place ahead. */
        final int[] ahead = new int[MOST_SIGNS];
        /** The whole as the turned text alone tells it. */
        final int[] again = new int[MOST_SIGNS];
        /** For each place, that of the end of its text. */
        final int[] endFrom = new int[MOST_SIGNS];
        /** How many signs are lower than each code. */
        final int[] lower = new int[CODES + 1];
        final int[] seen = new int[CODES];
        int size;
        int version = -1;

        void renew(Whole whole) {
            if (version == whole.version) {
                return;
            }
            version = whole.version;
            size = whole.size;
            sortEnds(whole.signs);
            compareEnds(whole.signs);
            turnText(whole.signs);
            countBack();
            rebuild();
        }

        /** From the last place on, since then the order of what is behind a first sign is known already. */
        private void sortEnds(int[] signs) {
            int end = size - 1;
            for (int place = size - 1; place >= 0; place--) {
                int many = size - 1 - place;
                int slot = slotFor(signs, place, many);
                System.arraycopy(placeOf, slot, placeOf, slot + 1, many - slot);
                placeOf[slot] = place;
                for (int i = slot; i <= many; i++) {
                    rankAt[placeOf[i]] = i;
                }
                end = signs[place] < LETTER ? place : end;
                endFrom[place] = end;
            }
        }

        private int slotFor(int[] signs, int place, int many) {
            int low = 0;
            int high = many;
            while (low < high) {
                int middle = (low + high) >>> 1;
                if (isLower(signs, placeOf[middle], place)) {
                    low = middle + 1;
                } else {
                    high = middle;
                }
            }
            return low;
        }

        private boolean isLower(int[] signs, int place, int other) {
            if (signs[place] != signs[other] || place + 1 >= size || other + 1 >= size) {
                return signs[place] < signs[other];
            }
            return rankAt[place + 1] < rankAt[other + 1];
        }

        /** By places, since what is common shrinks by no more than one from a place to the next. */
        private void compareEnds(int[] signs) {
            int known = 0;
            for (int place = 0; place < size; place++) {
                int rank = rankAt[place];
                if (rank > 0) {
                    known = alikeFrom(signs, place, placeOf[rank - 1], known);
                    alike[rank] = known;
                    known = known > 0 ? known - 1 : 0;
                } else {
                    alike[rank] = 0;
                    known = 0;
                }
            }
        }

        private int alikeFrom(int[] signs, int place, int other, int known) {
            int many = known;
            while (place + many < size && other + many < size && signs[place + many] == signs[other + many]) {
                many++;
            }
            return many;
        }

        private void turnText(int[] signs) {
            for (int rank = 0; rank < size; rank++) {
                int place = placeOf[rank];
                turn[rank] = signs[place > 0 ? place - 1 : size - 1];
            }
        }

        private void countBack() {
            Arrays.fill(lower, 0);
            Arrays.fill(seen, 0);
            for (int rank = 0; rank < size; rank++) {
                lower[turn[rank] + 1]++;
            }
            for (int code = 0; code < CODES; code++) {
                lower[code + 1] += lower[code];
            }
            for (int rank = 0; rank < size; rank++) {
                int code = turn[rank];
                ahead[rank] = lower[code] + seen[code];
                seen[code]++;
            }
        }

        private void rebuild() {
            // The last text's number is the rank of its end, and also the code of its end.
            int rank = lower[LETTER] - 1;
            int code = rank;
            for (int place = size - 1; place >= 0; place--) {
                again[place] = code;
                code = turn[rank];
                rank = ahead[rank];
            }
        }

        int alikeAnew(Whole whole, int rank) {
            return rank > 0 && rank < size ? alikeFrom(whole.signs, placeOf[rank], placeOf[rank - 1], 0) : 0;
        }

        int alikeAll() {
            int sum = 0;
            for (int rank = 0; rank < size; rank++) {
                sum += alike[rank];
            }
            return sum;
        }

        int stepsToSample(int rank, int every) {
            int steps = 0;
            int now = rank;
            while (steps < size && every > 0 && placeOf[now] % every != 0) {
                now = ahead[now];
                steps++;
            }
            return steps;
        }

        int runsNow() {
            int many = 0;
            for (int rank = 0; rank < size; rank++) {
                many += rank == 0 || turn[rank] != turn[rank - 1] ? 1 : 0;
            }
            return many;
        }

        int differentSigns() {
            int many = 0;
            for (int code = 0; code < CODES; code++) {
                many += lower[code + 1] > lower[code] ? 1 : 0;
            }
            return many;
        }
    }

    /** The turned text in four rows of bits; a row goes on with the signs whose bit is 0, then the others. */
    private static final class Rows {
        final int[][] blocks = new int[ROWS][MOST_BLOCKS];
        final int[][] onesBefore = new int[ROWS][MOST_BLOCKS];
        final int[] zeros = new int[ROWS];
        int[] now = new int[MOST_SIGNS];
        int[] next = new int[MOST_SIGNS];
        int size;
        int version = -1;

        void renew(Order order) {
            if (version == order.version) {
                return;
            }
            version = order.version;
            size = order.size;
            System.arraycopy(order.turn, 0, now, 0, size);
            for (int row = 0; row < ROWS; row++) {
                writeRow(row);
                partRow(row);
            }
        }

        private static int bitOf(int code, int row) {
            return (code >> (ROWS - 1 - row)) & 1;
        }

        private void writeRow(int row) {
            int[] block = blocks[row];
            int ones = 0;
            Arrays.fill(block, 0);
            for (int i = 0; i <= size; i++) {
                if ((i & (BLOCK - 1)) == 0) {
                    onesBefore[row][i >> BLOCK_BITS] = ones;
                }
                if (i < size && bitOf(now[i], row) == 1) {
                    block[i >> BLOCK_BITS] |= 1 << (i & (BLOCK - 1));
                    ones++;
                }
            }
            zeros[row] = size - ones;
        }

        private void partRow(int row) {
            int low = 0;
            int high = zeros[row];
            for (int i = 0; i < size; i++) {
                if (bitOf(now[i], row) == 0) {
                    next[low] = now[i];
                    low++;
                } else {
                    next[high] = now[i];
                    high++;
                }
            }
            int[] other = now;
            now = next;
            next = other;
        }

        int onesAhead(int row, int to) {
            int block = to >> BLOCK_BITS;
            int inside = blocks[row][block] & ((1 << (to & (BLOCK - 1))) - 1);
            return onesBefore[row][block] + Integer.bitCount(inside);
        }

        /** Where a place of a row lies in the next row, if the bit there is the one given. */
        private int down(int row, int bit, int to) {
            int ones = onesAhead(row, to);
            return bit == 1 ? zeros[row] + ones : to - ones;
        }

        int oftenAhead(int code, int to) {
            int low = 0;
            int high = to;
            for (int row = 0; row < ROWS; row++) {
                int bit = bitOf(code, row);
                low = down(row, bit, low);
                high = down(row, bit, high);
            }
            return high - low;
        }

        int rankWith(int code, int count) {
            int place = 0;
            for (int row = 0; row < ROWS; row++) {
                place = down(row, bitOf(code, row), place);
            }
            place += count - 1;
            for (int row = ROWS - 1; row >= 0; row--) {
                place = up(row, bitOf(code, row), place);
            }
            return place;
        }

        /** The place in a row that lies at a place of the next row. */
        private int up(int row, int bit, int place) {
            int low = 0;
            int high = size;
            while (low < high) {
                int middle = (low + high) >>> 1;
                if (down(row, bit, middle + 1) <= place) {
                    low = middle + 1;
                } else {
                    high = middle;
                }
            }
            return low;
        }

        int inOrder(int from, int to, int index) {
            int low = from;
            int high = to;
            int rest = index;
            int code = 0;
            for (int row = 0; row < ROWS; row++) {
                int zerosThere = down(row, 0, high) - down(row, 0, low);
                int bit = rest < zerosThere ? 0 : 1;
                rest -= bit == 1 ? zerosThere : 0;
                low = down(row, bit, low);
                high = down(row, bit, high);
                code = 2 * code + bit;
            }
            return code;
        }

        int lowerBetween(int from, int to, int code) {
            int low = from;
            int high = to;
            int many = 0;
            for (int row = 0; row < ROWS; row++) {
                int bit = bitOf(code, row);
                if (bit == 1) {
                    many += down(row, 0, high) - down(row, 0, low);
                }
                low = down(row, bit, low);
                high = down(row, bit, high);
            }
            return many;
        }

        /** A sign that is more than half of all is the middle one of the sorted ones; -1 if there is none. */
        int majority(int from, int to) {
            if (from >= to) {
                return -1;
            }
            int code = inOrder(from, to, (to - from) >> 1);
            int many = oftenAhead(code, to) - oftenAhead(code, from);
            return 2 * many > to - from ? code : -1;
        }

        boolean isUndone(Order order) {
            for (int rank = 0; rank < size; rank++) {
                int code = order.turn[rank];
                if (rankWith(code, oftenAhead(code, rank) + 1) != rank) {
                    return false;
                }
            }
            return true;
        }
    }

    /** The pattern, and the ranges of ranks whose ends begin with what was gone back over of it. */
    private static final class Search {
        final int[] pattern = new int[MOST_PATTERN];
        final int[] found = new int[MOST_SIGNS];
        final int[] slots = new int[CODES];
        int[] lows = new int[MOST_SIGNS];
        int[] highs = new int[MOST_SIGNS];
        int[] faults = new int[MOST_SIGNS];
        int[] nextLows = new int[MOST_SIGNS];
        int[] nextHighs = new int[MOST_SIGNS];
        int[] nextFaults = new int[MOST_SIGNS];
        int ranges;
        int size;

        void lengthen(int sign) {
            if (size < MOST_PATTERN) {
                pattern[size] = sign;
                size++;
            }
        }

        void shorten() {
            size = 0;
        }

        boolean hasWild() {
            for (int i = 0; i < size; i++) {
                if (pattern[i] == WILD) {
                    return true;
                }
            }
            return false;
        }

        /** Returns how many ranks are in the ranges that are left. */
        int goBack(Order order, int errors) {
            lows[0] = 0;
            highs[0] = order.size;
            faults[0] = 0;
            ranges = 1;
            for (int i = size - 1; i >= 0; i--) {
                stepBack(order, pattern[i], errors);
            }
            int many = 0;
            for (int i = 0; i < ranges; i++) {
                many += highs[i] - lows[i];
            }
            return many;
        }

        /** Ranges of pieces of one length have no rank in common, so there are never more than ranks. */
        private void stepBack(Order order, int sign, int errors) {
            int made = 0;
            for (int i = 0; i < ranges; i++) {
                Arrays.fill(slots, -1);
                for (int rank = lows[i]; rank < highs[i]; rank++) {
                    int code = order.turn[rank];
                    int fault = faults[i] + (isLike(sign, code) ? 0 : 1);
                    if (code >= LETTER && fault <= errors) {
                        if (slots[code] < 0) {
                            slots[code] = made;
                            nextLows[made] = order.ahead[rank];
                            nextFaults[made] = fault;
                            made++;
                        }
                        nextHighs[slots[code]] = order.ahead[rank] + 1;
                    }
                }
            }
            ranges = made;
            takeNext();
        }

        private void takeNext() {
            int[] oldLows = lows;
            int[] oldHighs = highs;
            int[] oldFaults = faults;
            lows = nextLows;
            highs = nextHighs;
            faults = nextFaults;
            nextLows = oldLows;
            nextHighs = oldHighs;
            nextFaults = oldFaults;
        }

        private static boolean isLike(int sign, int code) {
            return sign == WILD || sign == code;
        }

        int findPlaces(Order order) {
            int many = goBack(order, 0);
            Arrays.fill(found, 0);
            for (int i = 0; i < ranges; i++) {
                for (int rank = lows[i]; rank < highs[i]; rank++) {
                    found[order.placeOf[rank]] = 1;
                }
            }
            return many;
        }

        boolean isFound(int place) {
            return place >= 0 && place < MOST_SIGNS && found[place] == 1;
        }

        int placeWith(int index, int end) {
            int seen = 0;
            for (int place = 0; place < end; place++) {
                if (isFound(place)) {
                    if (seen == index) {
                        return place;
                    }
                    seen++;
                }
            }
            return -1;
        }

        int lookAtAll(Whole whole, int errors) {
            int many = 0;
            for (int place = 0; place + size <= whole.size; place++) {
                many += isAt(whole.signs, place, errors) ? 1 : 0;
            }
            return many;
        }

        private boolean isAt(int[] signs, int place, int errors) {
            int faults = 0;
            for (int i = 0; i < size; i++) {
                int code = signs[place + i];
                faults += isLike(pattern[i], code) ? 0 : 1;
                if (code < LETTER || faults > errors) {
                    return false;
                }
            }
            return true;
        }

        int longestFrom(Whole whole, int from) {
            int longest = 0;
            for (int place = 0; place < whole.size; place++) {
                int many = 0;
                while (from + many < size && place + many < whole.size
                        && pattern[from + many] == whole.signs[place + many]) {
                    many++;
                }
                longest = Math.max(longest, many);
            }
            return longest;
        }
    }

    /** The nodes of the tree, the last one in the first slot, as they are found. */
    private static final class Tree {
        final int[] depths = new int[MOST_SIGNS];
        final int[] firsts = new int[MOST_SIGNS];
        final int[] widths = new int[MOST_SIGNS];
        final int[] parents = new int[MOST_SIGNS];
        final int[] children = new int[MOST_SIGNS];
        final int[] open = new int[MOST_SIGNS];
        int many;
        int version = -1;

        void renew(Order order) {
            if (version == order.version) {
                return;
            }
            version = order.version;
            findNodes(order);
            findParents();
        }

        /**
         * From the last rank on, the open ranks are those at which what is common falls below all between.
         * One that is deeper than the rank now looked at is the depth of a node that begins there.
         */
        private void findNodes(Order order) {
            many = 0;
            int opened = 0;
            for (int rank = order.size - 1; rank >= 0; rank--) {
                int depth = rank > 0 ? order.alike[rank] : -1;
                while (opened > 0 && order.alike[open[opened - 1]] > depth) {
                    opened--;
                    int behind = opened > 0 ? open[opened - 1] : order.size;
                    depths[many] = order.alike[open[opened]];
                    firsts[many] = rank;
                    widths[many] = behind - rank;
                    many++;
                }
                if (opened > 0 && order.alike[open[opened - 1]] == depth) {
                    opened--;
                }
                open[opened] = rank;
                opened++;
            }
        }

        private void findParents() {
            for (int node = 0; node < many; node++) {
                int slot = slotOf(node);
                int parent = node - 1;
                for (int steps = 0; steps < many && parent >= 0 && !holds(parent, slot); steps++) {
                    parent = parents[slotOf(parent)];
                }
                parents[slot] = parent;
                children[slot] = widths[slot];
                if (parent >= 0) {
                    children[slotOf(parent)] += 1 - widths[slot];
                }
            }
        }

        private boolean holds(int node, int slot) {
            int outer = slotOf(node);
            return firsts[outer] + widths[outer] >= firsts[slot] + widths[slot];
        }

        int slotOf(int node) {
            return many - 1 - node;
        }

        int deepest() {
            int depth = 0;
            for (int i = 0; i < many; i++) {
                depth = Math.max(depth, depths[i]);
            }
            return depth;
        }
    }

    /** Phrases that make the whole, one behind the other. */
    private abstract static class Parse {
        final int[] places = new int[MOST_SIGNS];
        final int[] sizes = new int[MOST_SIGNS];
        final int[] sources = new int[MOST_SIGNS];
        int many;
        int version = -1;

        abstract void cutPhrases(Whole whole, Order order);

        abstract boolean isPhraseTold(int phrase, Whole whole);

        void renew(Whole whole, Order order) {
            if (version != whole.version) {
                version = whole.version;
                many = 0;
                cutPhrases(whole, order);
            }
        }

        void note(int place, int size, int source) {
            if (many < MOST_SIGNS) {
                places[many] = place;
                sizes[many] = size;
                sources[many] = source;
                many++;
            }
        }

        int withoutSource() {
            int alone = 0;
            for (int i = 0; i < many; i++) {
                alone += sources[i] < 0 ? 1 : 0;
            }
            return alone;
        }

        boolean makesWhole(Whole whole) {
            int place = 0;
            for (int i = 0; i < many; i++) {
                if (places[i] != place || place + sizes[i] > whole.size || !isPhraseTold(i, whole)) {
                    return false;
                }
                place += sizes[i];
            }
            return place == whole.size;
        }

        static boolean areAlike(Whole whole, int place, int other, int many) {
            if (Math.min(place, other) < 0 || Math.max(place, other) + many > whole.size) {
                return false;
            }
            for (int i = 0; i < many; i++) {
                if (whole.signs[place + i] != whole.signs[other + i]) {
                    return false;
                }
            }
            return true;
        }
    }

    /** The parse by copies. */
    private static final class Copies extends Parse {
        private int longest;
        private int lowest;

        void cutPhrases(Whole whole, Order order) {
            int place = 0;
            while (place < whole.size) {
                findSource(order, place);
                int size = Math.max(longest, 1);
                note(place, size, lowest);
                place += size;
            }
        }

        /** What is common only shrinks away from a rank, so the ranks next to it have the longest pieces. */
        private void findSource(Order order, int place) {
            longest = 0;
            lowest = -1;
            int rank = order.rankAt[place];
            int alike = MOST_SIGNS;
            for (int i = rank; i > 0 && alike > 0 && alike >= longest; i--) {
                alike = Math.min(alike, order.alike[i]);
                offer(order.placeOf[i - 1], place, alike);
            }
            alike = MOST_SIGNS;
            for (int i = rank + 1; i < order.size && alike > 0 && alike >= longest; i++) {
                alike = Math.min(alike, order.alike[i]);
                offer(order.placeOf[i], place, alike);
            }
        }

        private void offer(int source, int place, int alike) {
            if (source >= place || alike < 1 || alike < longest) {
                return;
            }
            if (alike > longest || source < lowest) {
                lowest = source;
            }
            longest = alike;
        }

        boolean isPhraseTold(int phrase, Whole whole) {
            int source = sources[phrase];
            if (source < 0) {
                return sizes[phrase] == 1;
            }
            return source < places[phrase] && areAlike(whole, source, places[phrase], sizes[phrase]);
        }
    }

    /** The parse by phrases. */
    private static final class Growth extends Parse {
        /** For no phrase and for each phrase, the phrase that goes on it with each code. */
        private final int[] onward = new int[(MOST_SIGNS + 1) * CODES];

        void cutPhrases(Whole whole, Order order) {
            Arrays.fill(onward, -1);
            int start = 0;
            int phrase = -1;
            for (int place = 0; place < whole.size; place++) {
                int slot = slotOf(phrase, whole.signs[place]);
                if (onward[slot] >= 0) {
                    phrase = onward[slot];
                } else {
                    onward[slot] = many;
                    note(start, place + 1 - start, phrase);
                    start = place + 1;
                    phrase = -1;
                }
            }
            if (start < whole.size) {
                note(start, whole.size - start, phrase);
            }
        }

        private static int slotOf(int phrase, int code) {
            return (phrase + 1) * CODES + code;
        }

        boolean isPhraseTold(int phrase, Whole whole) {
            int source = sources[phrase];
            if (source < 0) {
                return sizes[phrase] == 1;
            }
            boolean isLast = places[phrase] + sizes[phrase] == whole.size;
            int more = sizes[phrase] - sizes[source];
            return source < phrase && (more == 1 || isLast && more == 0)
                    && areAlike(whole, places[source], places[phrase], sizes[source]);
        }
    }

    /** The rules by pairs, and the line of signs that is left. */
    private static final class Pairs {
        private static final int WIDE = CODES + MOST_RULES;

        final int[] line = new int[MOST_SIGNS];
        final int[] firsts = new int[MOST_RULES];
        final int[] seconds = new int[MOST_RULES];
        /** How many signs of the whole each sign stands for. */
        final int[] spans = new int[WIDE];
        final int[] often = new int[WIDE * WIDE];
        int size;
        int many;
        int version = -1;

        void renew(Whole whole) {
            if (version == whole.version) {
                return;
            }
            version = whole.version;
            size = whole.size;
            many = 0;
            Arrays.fill(spans, 1);
            System.arraycopy(whole.signs, 0, line, 0, size);
            int place = mostOften();
            for (int made = 0; made < MOST_RULES && place >= 0; made++) {
                makeRule(line[place], line[place + 1]);
                place = mostOften();
            }
        }

        private int pairAt(int place) {
            return line[place] * WIDE + line[place + 1];
        }

        /** Returns the first place of the pair that is there the most often, or -1 if none is there twice. */
        private int mostOften() {
            tally();
            int best = -1;
            int most = 1;
            for (int i = 0; i + 1 < size; i++) {
                if (often[pairAt(i)] > most) {
                    most = often[pairAt(i)];
                    best = i;
                }
            }
            forget();
            return best;
        }

        /** Only what was counted is wiped, since the table is far greater than a line. */
        private void forget() {
            for (int i = 0; i + 1 < size; i++) {
                often[pairAt(i)] = 0;
            }
        }

        private void tally() {
            boolean isCounted = false;
            for (int i = 0; i + 1 < size; i++) {
                boolean isOverlap = isCounted && i > 0 && line[i - 1] == line[i] && line[i] == line[i + 1];
                if (!isOverlap) {
                    often[pairAt(i)]++;
                }
                isCounted = !isOverlap;
            }
        }

        private void makeRule(int first, int second) {
            if (many >= MOST_RULES) {
                return;
            }
            int sign = CODES + many;
            firsts[many] = first;
            seconds[many] = second;
            spans[sign] = spans[first] + spans[second];
            many++;
            int to = 0;
            int from = 0;
            while (from < size) {
                boolean isPair = from + 1 < size && line[from] == first && line[from + 1] == second;
                line[to] = isPair ? sign : line[from];
                from += isPair ? 2 : 1;
                to++;
            }
            size = to;
        }

        int codeDown(int place) {
            int rest = place;
            int i = 0;
            while (i < size && rest >= spans[line[i]]) {
                rest -= spans[line[i]];
                i++;
            }
            return i < size ? goDown(line[i], rest) : 0;
        }

        /** A rule has only signs that were there ahead of it, so no way down is longer than there are rules. */
        private int goDown(int sign, int place) {
            int now = sign;
            int rest = place;
            for (int i = 0; i < many && now >= CODES; i++) {
                int first = firsts[now - CODES];
                if (rest < spans[first]) {
                    now = first;
                } else {
                    rest -= spans[first];
                    now = seconds[now - CODES];
                }
            }
            return now;
        }
    }

    /** Counts of different pieces: an end brings those that are longer than what is common to its rank. */
    private static final class Pieces {
        /** By lengths, how many more pieces there are than of the length one shorter. */
        private final int[] more = new int[MOST_SIGNS + 2];

        int ofLetters(Order order, int size) {
            int many = 0;
            for (int rank = 0; rank < order.size; rank++) {
                many += order.alike[rank] < size && lettersFrom(order, order.placeOf[rank]) >= size ? 1 : 0;
            }
            return many;
        }

        int ofLettersAll(Order order) {
            int many = 0;
            for (int rank = 0; rank < order.size; rank++) {
                many += lettersFrom(order, order.placeOf[rank]) - order.alike[rank];
            }
            return many;
        }

        private static int lettersFrom(Order order, int place) {
            return order.endFrom[place] - place;
        }

        int ofLettersAnew(Whole whole, Order order, int size) {
            int many = 0;
            for (int place = 0; place < whole.size; place++) {
                if (lettersFrom(order, place) >= size && !isEarlier(whole, place, size)) {
                    many++;
                }
            }
            return many;
        }

        private static boolean isEarlier(Whole whole, int place, int size) {
            for (int other = 0; other < place; other++) {
                if (Parse.areAlike(whole, other, place, size)) {
                    return true;
                }
            }
            return false;
        }

        float densest(Order order) {
            Arrays.fill(more, 0);
            for (int rank = 0; rank < order.size; rank++) {
                more[order.alike[rank] + 1]++;
                more[order.size - order.placeOf[rank] + 1]--;
            }
            float best = 0;
            int many = 0;
            for (int size = 1; size <= order.size; size++) {
                many += more[size];
                float quotient = (float) many / (float) size;
                best = quotient > best ? quotient : best;
            }
            return best;
        }

        /** A density is 0, or 1 to 160, so only these numbers are told. */
        int bitsOf(float density) {
            if (density < 1) {
                return 0;
            }
            int exponent = 127;
            float rest = density;
            while (exponent < 140 && rest >= 2) {
                rest = rest / 2;
                exponent++;
            }
            return (exponent << 23) + (int) ((rest - 1) * 8388608);
        }
    }
}
