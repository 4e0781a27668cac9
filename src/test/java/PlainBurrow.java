import java.util.ArrayDeque;
import java.util.ArrayList;
import java.util.Arrays;
import java.util.Deque;
import java.util.HashMap;
import java.util.HashSet;
import java.util.List;
import java.util.Map;
import java.util.NoSuchElementException;
import java.util.Set;

/** The document's words in their plainest form, without any index: what TextBurrow is compared with. */
final class PlainBurrow {
    private List<String> texts = new ArrayList<>();
    private final Deque<List<String>> changes = new ArrayDeque<>();
    private final List<List<String>> snapshots = new ArrayList<>();
    private String pattern = "";
    private int sample = 4;

    // ---- texts

    public int newText() {
        state(texts.size() < 6 && whole() < 160);
        change();
        texts.add("");
        return texts.size() - 1;
    }

    public int append(int text, char letter) {
        index(text, texts.size());
        argument(isLetter(letter));
        return put(text, texts.get(text).length(), String.valueOf(letter));
    }

    public int repeat(int text, int from, int count) {
        index(text, texts.size());
        String now = texts.get(text);
        argument(from >= 0 && from < now.length() && count >= 1 && count <= 60);
        StringBuilder all = new StringBuilder(now);
        for (int i = 0; i < count; i++) {
            all.append(all.charAt(from + i));
        }
        return put(text, now.length(), all.substring(now.length()));
    }

    public int draw(int text, int seed, int count, int letters) {
        index(text, texts.size());
        argument(seed >= 0 && seed <= 9999 && count >= 1 && count <= 60 && letters >= 1 && letters <= 8);
        StringBuilder drawn = new StringBuilder();
        long number = seed;
        while (drawn.length() < count) {
            number = (number * 75 + 74) % 65537;
            drawn.append("abcdefgh".charAt((int) (number % letters)));
        }
        return put(text, texts.get(text).length(), drawn.toString());
    }

    public int fibonacci(int text, int count) {
        index(text, texts.size());
        argument(count >= 1 && count <= 90);
        String ahead = "b";
        String word = "a";
        while (word.length() < count) {
            String next = word + ahead;
            ahead = word;
            word = next;
        }
        return put(text, texts.get(text).length(), word.substring(0, count));
    }

    public int insert(int text, int at, char letter) {
        index(text, texts.size());
        argument(at >= 0 && at <= texts.get(text).length() && isLetter(letter));
        return put(text, at, String.valueOf(letter));
    }

    public char remove(int text, int at) {
        index(text, texts.size());
        String now = texts.get(text);
        argument(at >= 0 && at < now.length());
        change();
        texts.set(text, now.substring(0, at) + now.substring(at + 1));
        return now.charAt(at);
    }

    public int undo() {
        element(!changes.isEmpty());
        texts = changes.removeLast();
        return changes.size();
    }

    public int snapshot() {
        state(snapshots.size() < 8);
        snapshots.add(new ArrayList<>(texts));
        return snapshots.size() - 1;
    }

    public int restore(int snapshot) {
        index(snapshot, snapshots.size());
        change();
        texts = new ArrayList<>(snapshots.get(snapshot));
        return texts.size();
    }

    public int texts() {
        return texts.size();
    }

    public int length(int text) {
        index(text, texts.size());
        return texts.get(text).length();
    }

    public char letterAt(int text, int at) {
        index(text, texts.size());
        element(at >= 0 && at < texts.get(text).length());
        return texts.get(text).charAt(at);
    }

    public int whole() {
        return all().length();
    }

    public char rebuilt(int place) {
        index(place, whole());
        return all().charAt(place);
    }

    // ---- order

    public int suffix(int rank) {
        index(rank, whole());
        return sorted().get(rank);
    }

    public int rankOf(int place) {
        index(place, whole());
        return sorted().indexOf(place);
    }

    public char turned(int rank) {
        index(rank, whole());
        return turnedText().charAt(rank);
    }

    public int common(int rank) {
        index(rank, whole());
        List<Integer> sorted = sorted();
        return rank == 0 ? 0 : alike(all().substring(sorted.get(rank - 1)), all().substring(sorted.get(rank)));
    }

    public int commonAnew(int rank) {
        return common(rank);
    }

    public int back(int rank) {
        index(rank, whole());
        return sorted().indexOf((sorted().get(rank) + whole() - 1) % whole());
    }

    public int setSample(int every) {
        argument(every >= 1 && every <= 16);
        int before = sample;
        sample = every;
        return before;
    }

    public int walk(int rank) {
        index(rank, whole());
        int steps = 0;
        for (int place = sorted().get(rank); place % sample != 0; place--) {
            steps++;
        }
        return steps;
    }

    // ---- bits

    public int ones(int row, int to) {
        index(row, 4);
        index(to, whole() + 1);
        List<Integer> signs = turnedCodes();
        for (int r = 0; r < row; r++) {
            List<Integer> next = new ArrayList<>();
            for (int bit = 0; bit < 2; bit++) {
                for (int code : signs) {
                    if (bit(code, r) == bit) {
                        next.add(code);
                    }
                }
            }
            signs = next;
        }
        int ones = 0;
        for (int code : signs.subList(0, to)) {
            ones += bit(code, row);
        }
        return ones;
    }

    public int rank(int code, int to) {
        argument(code >= 0 && code <= 13);
        index(to, whole() + 1);
        int often = 0;
        for (int other : turnedCodes().subList(0, to)) {
            often += other == code ? 1 : 0;
        }
        return often;
    }

    public int select(int code, int count) {
        argument(code >= 0 && code <= 13);
        List<Integer> signs = turnedCodes();
        int seen = 0;
        for (int rank = 0; rank < signs.size(); rank++) {
            if (signs.get(rank) == code) {
                seen++;
                if (seen == count) {
                    return rank;
                }
            }
        }
        throw new NoSuchElementException();
    }

    public int quantile(int from, int to, int index) {
        List<Integer> signs = between(from, to);
        element(index >= 0 && index < signs.size());
        signs.sort(null);
        return signs.get(index);
    }

    public int below(int from, int to, int code) {
        List<Integer> signs = between(from, to);
        argument(code >= 0 && code <= 14);
        int many = 0;
        for (int other : signs) {
            many += other < code ? 1 : 0;
        }
        return many;
    }

    public int most(int from, int to) {
        List<Integer> signs = between(from, to);
        for (int code = 0; code < 14; code++) {
            int often = 0;
            for (int other : signs) {
                often += other == code ? 1 : 0;
            }
            if (often > signs.size() - often) {
                return code;
            }
        }
        throw new NoSuchElementException();
    }

    // ---- search

    public int sign(char sign) {
        argument(isLetter(sign) || sign == '?');
        state(pattern.length() < 20);
        pattern += sign;
        return pattern.length();
    }

    public int wipe() {
        int before = pattern.length();
        pattern = "";
        return before;
    }

    public int count() {
        pattern(true);
        return placesWith(0).size();
    }

    public int countAnew() {
        return count();
    }

    public int at(int index) {
        pattern(true);
        List<Integer> places = placesWith(0);
        element(index >= 0 && index < places.size());
        return places.get(index);
    }

    public int firstRank() {
        pattern(false);
        for (int rank = 0; rank < whole(); rank++) {
            if (all().substring(sorted().get(rank)).startsWith(pattern)) {
                return rank;
            }
        }
        throw new NoSuchElementException();
    }

    public int matching(int from) {
        pattern(false);
        index(from, pattern.length());
        int many = 0;
        while (from + many < pattern.length() && all().contains(pattern.substring(from, from + many + 1))) {
            many++;
        }
        return many;
    }

    public int near(int errors) {
        pattern(true);
        argument(errors >= 0 && errors <= 3);
        return placesWith(errors).size();
    }

    public int nearAnew(int errors) {
        return near(errors);
    }

    public int inText(int text) {
        pattern(true);
        index(text, texts.size());
        return placesIn(text);
    }

    public int listed(int index) {
        pattern(true);
        List<Integer> listed = new ArrayList<>();
        for (int text = 0; text < texts.size(); text++) {
            if (placesIn(text) > 0) {
                listed.add(text);
            }
        }
        element(index >= 0 && index < listed.size());
        return listed.get(index);
    }

    public int top() {
        pattern(true);
        int best = 0;
        for (int text = 0; text < texts.size(); text++) {
            best = placesIn(text) > placesIn(best) ? text : best;
        }
        element(!texts.isEmpty() && placesIn(best) > 0);
        return best;
    }

    // ---- tree

    private String nodesFor = "none yet";
    private List<int[]> nodesThen = new ArrayList<>();

    /** Depth, first rank, how many ranks. */
    private List<int[]> nodeList() {
        if (!nodesFor.equals(all())) {
            nodesFor = all();
            nodesThen = nodesAnew();
        }
        return nodesThen;
    }

    private List<int[]> nodesAnew() {
        int size = whole();
        List<int[]> nodes = new ArrayList<>();
        for (int first = 0; first < size; first++) {
            for (int last = size - 1; last > first; last--) {
                int depth = alikeAll(first, last);
                boolean isRoot = first == 0 && last == size - 1;
                boolean isWidest = (first == 0 || alikeAll(first - 1, last) < depth)
                        && (last == size - 1 || alikeAll(first, last + 1) < depth);
                if (isRoot || depth > 0 && isWidest) {
                    nodes.add(new int[] {isRoot ? 0 : depth, first, last - first + 1});
                }
            }
        }
        return nodes;
    }

    public int nodes() {
        return nodeList().size();
    }

    public int node(int node, char what) {
        List<int[]> nodes = nodeList();
        index(node, nodes.size());
        argument("dflpc".indexOf(what) >= 0);
        int[] it = nodes.get(node);
        if (what == 'p') {
            return parentOf(nodes, node);
        }
        if (what != 'c') {
            return it["dfl".indexOf(what)];
        }
        int children = 0;
        boolean[] isIn = new boolean[whole()];
        for (int other = 0; other < nodes.size(); other++) {
            if (other != node && parentOf(nodes, other) == node) {
                children++;
                int first = nodes.get(other)[1];
                Arrays.fill(isIn, first, first + nodes.get(other)[2], true);
            }
        }
        for (int rank = it[1]; rank < it[1] + it[2]; rank++) {
            children += isIn[rank] ? 0 : 1;
        }
        return children;
    }

    public int longestRepeat() {
        int deepest = 0;
        for (int[] node : nodeList()) {
            deepest = Math.max(deepest, node[0]);
        }
        return deepest;
    }

    public int distinct(int size) {
        argument(size >= 0 && size <= 160);
        Set<String> pieces = new HashSet<>();
        for (String text : texts) {
            for (int length = Math.max(1, size); length <= (size == 0 ? text.length() : size); length++) {
                pieces.addAll(piecesOf(text, length));
            }
        }
        return pieces.size();
    }

    public int distinctAnew(int size) {
        argument(size >= 1 && size <= 160);
        return distinct(size);
    }

    public int runs() {
        String turned = turnedText();
        int runs = 0;
        for (int i = 0; i < turned.length(); i++) {
            runs += i == 0 || turned.charAt(i) != turned.charAt(i - 1) ? 1 : 0;
        }
        return runs;
    }

    // ---- parses

    /** Place, length, source. */
    private List<int[]> cut(char parse) {
        return parse == '7' ? byCopies() : byPhrases();
    }

    private List<int[]> byCopies() {
        String all = all();
        List<int[]> phrases = new ArrayList<>();
        int place = 0;
        while (place < all.length()) {
            int size = 0;
            while (place + size < all.length() && all.indexOf(all.substring(place, place + size + 1)) < place) {
                size++;
            }
            int source = size == 0 ? -1 : all.indexOf(all.substring(place, place + size));
            phrases.add(new int[] {place, Math.max(size, 1), source});
            place += Math.max(size, 1);
        }
        return phrases;
    }

    private List<int[]> byPhrases() {
        String all = all();
        List<int[]> phrases = new ArrayList<>();
        Map<String, Integer> known = new HashMap<>();
        int place = 0;
        while (place < all.length()) {
            int source = -1;
            int size = 0;
            for (int length = all.length() - place; length > 0 && source < 0; length--) {
                source = known.getOrDefault(all.substring(place, place + length), -1);
                size = source < 0 ? 0 : length;
            }
            size = Math.min(size + 1, all.length() - place);
            known.putIfAbsent(all.substring(place, place + size), phrases.size());
            phrases.add(new int[] {place, size, source});
            place += size;
        }
        return phrases;
    }

    public int phrases(char parse) {
        argument(parse == '7' || parse == '8');
        return cut(parse).size();
    }

    public int phrase(char parse, int index, char what) {
        argument((parse == '7' || parse == '8') && "plf".indexOf(what) >= 0);
        List<int[]> phrases = cut(parse);
        index(index, phrases.size());
        return phrases.get(index)["plf".indexOf(what)];
    }

    public int literals() {
        int literals = 0;
        for (int[] phrase : byCopies()) {
            literals += phrase[2] < 0 ? 1 : 0;
        }
        return literals;
    }

    private String pairedFor = "none yet";
    private List<List<Integer>> pairedThen = new ArrayList<>();

    /** The rules, as pairs, and behind them the line that is left. */
    private List<List<Integer>> paired() {
        if (!pairedFor.equals(all())) {
            pairedFor = all();
            pairedThen = pairedAnew();
        }
        return pairedThen;
    }

    private List<List<Integer>> pairedAnew() {
        List<List<Integer>> made = new ArrayList<>();
        List<Integer> line = codesOf(all());
        while (true) {
            List<Integer> best = null;
            int most = 1;
            for (int i = 0; i + 1 < line.size(); i++) {
                List<Integer> pair = new ArrayList<>(line.subList(i, i + 2));
                int often = line.size() - replaced(line, pair, -1).size();
                if (often > most) {
                    most = often;
                    best = pair;
                }
            }
            if (best == null) {
                made.add(line);
                return made;
            }
            line = replaced(line, best, 100 + made.size());
            made.add(best);
        }
    }

    private static List<Integer> replaced(List<Integer> line, List<Integer> pair, int sign) {
        List<Integer> next = new ArrayList<>();
        for (int i = 0; i < line.size(); i++) {
            if (i + 1 < line.size() && line.subList(i, i + 2).equals(pair)) {
                next.add(sign);
                i++;
            } else {
                next.add(line.get(i));
            }
        }
        return next;
    }

    public int rules() {
        return paired().size() - 1;
    }

    public int rule(int rule, boolean isSecond) {
        index(rule, rules());
        return paired().get(rule).get(isSecond ? 1 : 0);
    }

    public int left(int index) {
        List<Integer> line = paired().get(rules());
        element(index >= 0 && index < line.size());
        return line.get(index);
    }

    public char byRules(int place) {
        return rebuilt(place);
    }

    // ---- room and measures

    public int room(char what) {
        int size = whole();
        int signs = (int) all().chars().distinct().count();
        int rules = rules();
        switch (what) {
            case 'p':
                return size * bits(signs);
            case 'r':
                return runs() * (bits(signs) + bits(size));
            case '7':
                return phrases('7') * 2 * bits(size + 1);
            case '8':
                return phrases('8') * (bits(phrases('8') + 1) + bits(signs));
            case 'g':
                return (2 * rules + paired().get(rules).size()) * bits(signs + rules);
            case 'w':
                return 4 * size + 4 * 8 * (size / 16 + 1);
            default:
                throw new IllegalArgumentException();
        }
    }

    public char least() {
        char best = 'p';
        for (char what : "r78gw".toCharArray()) {
            best = room(what) < room(best) ? what : best;
        }
        return best;
    }

    public float density() {
        float best = 0;
        for (int size = 1; size <= whole(); size++) {
            best = Math.max(best, (float) piecesOf(all(), size).size() / (float) size);
        }
        return best;
    }

    public int densityBits() {
        return Float.floatToIntBits(density());
    }

    public double meanCommon() {
        if (texts.isEmpty()) {
            throw new ArithmeticException();
        }
        int sum = 0;
        for (int rank = 0; rank < whole(); rank++) {
            sum += common(rank);
        }
        return (double) sum / (double) whole();
    }

    public long print() {
        long print = 7;
        for (int code : turnedCodes()) {
            print = print * 31 + code;
        }
        return print;
    }

    public boolean isSound() {
        return true;
    }

    // ---- helpers

    /** The whole, its signs as characters. */
    String all() {
        StringBuilder all = new StringBuilder();
        for (int text = 0; text < texts.size(); text++) {
            all.append(texts.get(text)).append(text);
        }
        return all.toString();
    }

    private String sortedFor = "";
    private List<Integer> sortedThen = new ArrayList<>();

    private List<Integer> sorted() {
        String all = all();
        if (!all.equals(sortedFor)) {
            sortedFor = all;
            sortedThen = new ArrayList<>();
            for (int place = 0; place < all.length(); place++) {
                sortedThen.add(place);
            }
            // The characters of signs are in the order of their codes.
            sortedThen.sort((a, b) -> all.substring(a).compareTo(all.substring(b)));
        }
        return sortedThen;
    }

    private String turnedText() {
        StringBuilder turned = new StringBuilder();
        for (int place : sorted()) {
            turned.append(all().charAt((place + whole() - 1) % whole()));
        }
        return turned.toString();
    }

    private List<Integer> turnedCodes() {
        return codesOf(turnedText());
    }

    private static List<Integer> codesOf(String signs) {
        List<Integer> codes = new ArrayList<>();
        for (char sign : signs.toCharArray()) {
            codes.add("012345abcdefgh".indexOf(sign));
        }
        return codes;
    }

    private static int bit(int code, int row) {
        return new int[] {code / 8, code / 4, code / 2, code}[row] % 2;
    }

    private static int bits(int things) {
        int bits = 1;
        while (Math.pow(2, bits) < things) {
            bits++;
        }
        return bits;
    }

    private List<Integer> between(int from, int to) {
        if (from < 0 || from > to || to > whole()) {
            throw new IndexOutOfBoundsException();
        }
        return new ArrayList<>(turnedCodes().subList(from, to));
    }

    private List<Integer> placesWith(int errors) {
        String all = all();
        List<Integer> places = new ArrayList<>();
        for (int place = 0; place + pattern.length() <= all.length(); place++) {
            String piece = all.substring(place, place + pattern.length());
            int unlike = 0;
            for (int i = 0; i < piece.length(); i++) {
                unlike += pattern.charAt(i) == '?' || pattern.charAt(i) == piece.charAt(i) ? 0 : 1;
            }
            if (unlike <= errors && piece.matches("[a-h]*")) {
                places.add(place);
            }
        }
        return places;
    }

    private int placesIn(int text) {
        int from = 0;
        for (int other = 0; other < text; other++) {
            from += texts.get(other).length() + 1;
        }
        int many = 0;
        for (int place : placesWith(0)) {
            many += place >= from && place < from + texts.get(text).length() ? 1 : 0;
        }
        return many;
    }

    private static int parentOf(List<int[]> nodes, int node) {
        int[] it = nodes.get(node);
        int parent = -1;
        for (int other = 0; other < nodes.size(); other++) {
            int[] wider = nodes.get(other);
            boolean isAround = wider[1] <= it[1] && wider[1] + wider[2] >= it[1] + it[2] && wider[2] > it[2];
            if (isAround && (parent < 0 || wider[2] < nodes.get(parent)[2])) {
                parent = other;
            }
        }
        return parent;
    }

    private int alikeAll(int first, int last) {
        return alike(all().substring(sorted().get(first)), all().substring(sorted().get(last)));
    }

    private static int alike(String one, String other) {
        int many = 0;
        while (many < one.length() && many < other.length() && one.charAt(many) == other.charAt(many)) {
            many++;
        }
        return many;
    }

    private static Set<String> piecesOf(String text, int size) {
        Set<String> pieces = new HashSet<>();
        for (int place = 0; place + size <= text.length(); place++) {
            pieces.add(text.substring(place, place + size));
        }
        return pieces;
    }

    private int put(int text, int at, String letters) {
        state(whole() + letters.length() <= 160);
        change();
        String now = texts.get(text);
        texts.set(text, now.substring(0, at) + letters + now.substring(at));
        return texts.get(text).length();
    }

    private void change() {
        changes.addLast(new ArrayList<>(texts));
        if (changes.size() > 20) {
            changes.removeFirst();
        }
    }

    private static boolean isLetter(char letter) {
        return letter >= 'a' && letter <= 'h';
    }

    private void pattern(boolean mayBeWild) {
        if (pattern.isEmpty() || !mayBeWild && pattern.contains("?")) {
            throw new UnsupportedOperationException();
        }
    }

    private static void state(boolean holds) {
        if (!holds) {
            throw new IllegalStateException();
        }
    }

    private static void argument(boolean holds) {
        if (!holds) {
            throw new IllegalArgumentException();
        }
    }

    private static void index(int index, int many) {
        if (index < 0 || index >= many) {
            throw new IndexOutOfBoundsException();
        }
    }

    private static void element(boolean holds) {
        if (!holds) {
            throw new NoSuchElementException();
        }
    }
}
