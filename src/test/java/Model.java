import java.util.ArrayList;
import java.util.Arrays;
import java.util.List;
import java.util.Map;
import java.util.TreeMap;

/**
 * The document once more, as slow and as plain as can be, with the Java library: ModelTest sets the class against it.
 * It shares nothing with the class: words are rows of letters, ways are tried out one by one, texts are parted anew
 * each time that they are worked out.
 */
final class Model {
    static final int BAD = -1000000001, NO = -1000000002, FULL = -1000000003, NONE = -1000000005, NOTHING = -1000000011, KIND = -1000000012, INDEX = -1000000013, SIZE = -1000000014;

    /** All that an image keeps. */
    static final class World {
        List<int[]> words = new ArrayList<>();
        List<Integer> weights = new ArrayList<>();
        List<int[]> askers = new ArrayList<>();
        List<List<String>> texts = new ArrayList<>();
        Map<String, Integer> latest = new TreeMap<>();
        Integer hidden = null;
        String asked = "";
        int lines = 0;
        int gallows = 6;
        int z = 1;

        World same() {
            World w = new World();
            w.words.addAll(words);
            w.weights.addAll(weights);
            for (int[] asker : askers) {
                w.askers.add(asker.clone());
            }
            w.texts.addAll(texts);
            w.latest.putAll(latest);
            w.hidden = hidden;
            w.asked = asked;
            w.lines = lines;
            w.gallows = gallows;
            w.z = z;
            return w;
        }
    }

    World w = new World();
    private World image = null;
    /** A sheet: its sort ahead, then its places; null: MISSING; a place null: NO NUMBER. */
    private final List<List<Integer>> sheets = new ArrayList<>(Arrays.asList(null, null, null, null));
    private final Object[] slots = new Object[5];
    private final List<Integer> tape = new ArrayList<>();
    private final List<Integer> waiting = new ArrayList<>();

    // ---- terms, part 1

    private static boolean isAsked(String asked, int letter) {
        return asked.indexOf((char) ('0' + letter)) >= 0;
    }

    private static boolean has(int[] word, int letter) {
        return Arrays.stream(word).anyMatch(l -> l == letter);
    }

    private static boolean fits(int[] word, int[] hidden, String asked) {
        for (int place = 0; place < 4; place++) {
            boolean alike = word[place] == hidden[place];
            boolean neither = !isAsked(asked, word[place]) && !isAsked(asked, hidden[place]);
            if (!alike && !neither) {
                return false;
            }
        }
        return true;
    }

    private static List<Integer> fitting(World w) {
        List<Integer> all = new ArrayList<>();
        for (int i = 0; i < w.words.size(); i++) {
            if (w.hidden != null && fits(w.words.get(i), w.words.get(w.hidden), w.asked)) {
                all.add(i);
            }
        }
        return all;
    }

    private static boolean allAsked(int[] word, String asked) {
        return Arrays.stream(word).allMatch(l -> isAsked(asked, l));
    }

    private static boolean had(World w) {
        return w.hidden != null && allAsked(w.words.get(w.hidden), w.asked);
    }

    private static boolean hung(World w) {
        return !had(w) && w.lines >= w.gallows;
    }

    private static int placesOf(int[] word, int letter) {
        int set = 0;
        for (int place = 0; place < 4; place++) {
            set += word[place] == letter ? (int) Math.pow(2, place) : 0;
        }
        return set;
    }

    private static Map<Integer, List<Integer>> classes(World w, int letter, List<Integer> fits) {
        Map<Integer, List<Integer>> all = new TreeMap<>();
        for (int i : fits) {
            all.computeIfAbsent(placesOf(w.words.get(i), letter), s -> new ArrayList<>()).add(i);
        }
        return all;
    }

    private static int sum(World w, List<Integer> some) {
        return some.stream().mapToInt(i -> w.weights.get(i)).sum();
    }

    private static List<Integer> thatHave(World w, List<Integer> some, int letter) {
        List<Integer> found = new ArrayList<>(some);
        found.removeIf(i -> !has(w.words.get(i), letter));
        return found;
    }

    private static List<Integer> all(World w) {
        List<Integer> all = new ArrayList<>();
        for (int i = 0; i < w.words.size(); i++) {
            all.add(i);
        }
        return all;
    }

    private static int score(World w, int kind, int first, int letter, List<Integer> fits) {
        int isFirst = letter == first ? 1 : 0;
        if (kind == 0) {
            if (!w.latest.containsKey("ask")) {
                return 100 * isFirst;
            }
            List<Integer> those = thatHave(w, fits, letter);
            int given = work(w, "ask", Map.of("n", those.size(), "w", sum(w, those), "f", isFirst));
            return given < 0 ? 0 : given > 9999 ? 9999 : given;
        }
        if (kind == 1) {
            return sum(w, thatHave(w, all(w), letter)) + isFirst;
        }
        if (kind == 2) {
            return sum(w, thatHave(w, fits, letter));
        }
        if (kind == 3) {
            return score(w, 1, first, letter, fits) + 1000 * thatHave(w, fits, letter).size();
        }
        if (kind == 4) {
            return 5000 - classes(w, letter, fits).values().stream().mapToInt(c -> sum(w, c)).max().orElse(0);
        }
        return 9999 - score(w, 0, first, letter, fits);
    }

    private static int worth(int kind, int first) {
        int[] worths = {first, first + 10, 50 - first, 20 + 2 * first, 44 - first, 1};
        return worths[kind];
    }

    private static boolean under(int kind, int other) {
        String[] above = {"0", "10", "20", "310", "420", "50"};
        return above[kind].contains("" + other);
    }

    private static Integer next(World w, int asker, String asked, List<Integer> fits) {
        Integer next = null;
        int most = 0;
        for (int letter = 5; letter >= 0; letter--) {
            if (!isAsked(asked, letter)) {
                int score = score(w, w.askers.get(asker)[0], w.askers.get(asker)[1], letter, fits);
                if (next == null || score >= most) {
                    next = letter;
                    most = score;
                }
            }
        }
        return next;
    }

    // ---- terms, part 2

    private static int askFor(World w, int letter) {
        w.asked += letter;
        int places = placesOf(w.words.get(w.hidden), letter);
        if (places == 0) {
            w.lines++;
        }
        return places;
    }

    private static void play(World w, int asker) {
        while (w.hidden != null && !had(w) && !hung(w)) {
            askFor(w, next(w, asker, w.asked, fitting(w)));
        }
    }

    private static int draw(World w) {
        w.z = w.z * 1103515245 + 12345;
        return w.z >>> 8;
    }

    private static void begin(World w, Integer word) {
        w.hidden = word;
        w.asked = "";
        w.lines = 0;
    }

    private static void choosing(World w) {
        List<Integer> tickets = new ArrayList<>();
        for (int i = 0; i < w.words.size(); i++) {
            int times = w.weights.get(i);
            if (w.latest.containsKey("draw")) {
                times = Math.max(0, Math.min(999, work(w, "draw", Map.of("w", times, "n", i))));
            }
            for (int t = 0; t < times; t++) {
                tickets.add(i);
            }
        }
        begin(w, tickets.isEmpty() ? null : tickets.get(draw(w) % tickets.size()));
    }

    // ---- texts

    private static List<String> parts(List<Integer> bytes, List<Integer> places) {
        List<String> parts = new ArrayList<>();
        String last = "";
        for (int i = 0; i < bytes.size(); i++) {
            char c = (char) (int) bytes.get(i);
            String sort = c >= 'a' && c <= 'z' ? "word" : c >= '0' && c <= '9' ? "number" : c == ' ' ? "blank" : "sign";
            if (sort.equals(last) && (sort.equals("word") || sort.equals("number"))) {
                parts.set(parts.size() - 1, parts.get(parts.size() - 1) + c);
            } else if (!sort.equals("blank")) {
                parts.add("" + c);
                places.add(i);
            }
            last = sort;
        }
        places.add(bytes.size());
        return parts;
    }

    private static String namesOf(String key) {
        return key.equals("ask") ? "nwf" : key.equals("draw") ? "wn" : "lk";
    }

    /** How many parts go well ahead of the first with which no TEXT goes on; all, and one more: it is a TEXT. */
    private static int goesWell(List<String> parts, List<Integer> places) {
        if (parts.isEmpty() || !List.of("ask", "draw", "fine").contains(parts.get(0))) {
            return 0;
        }
        // For each ( that is open, and for the whole: whether a comparison was there, and how many ! wait for a piece.
        List<int[]> levels = new ArrayList<>();
        levels.add(new int[2]);
        boolean piece = true;
        for (int i = 1; i < parts.size(); i++) {
            String part = parts.get(i);
            int[] level = levels.get(levels.size() - 1);
            char c = part.charAt(0);
            if (piece) {
                int nots = levels.stream().mapToInt(l -> l[1]).sum();
                if (c >= '0' && c <= '9') {
                    boolean close = i == 1 && places.get(0) + parts.get(0).length() == places.get(1);
                    if (part.length() > 4 || close) {
                        return i;
                    }
                    level[1] = 0;
                    piece = false;
                } else if (c >= 'a' && c <= 'z') {
                    if (part.length() != 1 || !namesOf(parts.get(0)).contains(part)) {
                        return i;
                    }
                    level[1] = 0;
                    piece = false;
                } else if (c == '!') {
                    if (nots == 8) {
                        return i;
                    }
                    level[1]++;
                } else if (c == '(') {
                    if (levels.size() == 9) {
                        return i;
                    }
                    levels.add(new int[2]);
                } else {
                    return i;
                }
            } else if (c == ')') {
                if (levels.size() == 1) {
                    return i;
                }
                levels.remove(levels.size() - 1);
                levels.get(levels.size() - 1)[1] = 0;
            } else if ("<=>".indexOf(c) >= 0) {
                if (level[0] == 1) {
                    return i;
                }
                level[0] = 1;
                piece = true;
            } else if ("|&".indexOf(c) >= 0) {
                level[0] = 0;
                piece = true;
            } else if ("+-*/".indexOf(c) >= 0) {
                piece = true;
            } else {
                return i;
            }
        }
        return piece || levels.size() > 1 ? parts.size() : parts.size() + 1;
    }

    private static int work(World w, String key, Map<String, Integer> names) {
        List<String> text = w.texts.get(w.latest.get(key));
        return work(text.subList(1, text.size()), names);
    }

    private static int work(List<String> e, Map<String, Integer> names) {
        for (String signs : new String[] {"|", "&", "<=>", "+-", "*/"}) {
            int open = 0;
            for (int i = e.size() - 1; i > 0; i--) {
                String sign = e.get(i);
                open += sign.equals(")") ? 1 : sign.equals("(") ? -1 : 0;
                if (open == 0 && signs.contains(sign)) {
                    return join(sign.charAt(0), work(e.subList(0, i), names), work(e.subList(i + 1, e.size()), names));
                }
            }
        }
        if (e.get(0).equals("!")) {
            return work(e.subList(1, e.size()), names) == 0 ? 1 : 0;
        }
        if (e.get(0).equals("(")) {
            return work(e.subList(1, e.size() - 1), names);
        }
        return names.containsKey(e.get(0)) ? names.get(e.get(0)) : Integer.parseInt(e.get(0));
    }

    private static int join(char sign, int x, int y) {
        boolean test = sign == '|' && (x != 0 || y != 0) || sign == '&' && x != 0 && y != 0 || sign == '<' && x < y
            || sign == '=' && x == y || sign == '>' && x > y;
        return sign == '+' ? x + y : sign == '-' ? x - y : sign == '*' ? x * y : sign != '/' ? (test ? 1 : 0) : y == 0 ? 0 : x / y;
    }

    // ---- the calls

    private boolean noWord(int word) {
        return word < 0 || word >= w.words.size();
    }

    private boolean noAsker(int asker) {
        return asker < 0 || asker >= w.askers.size();
    }

    private static boolean out(int v, int least, int most) {
        return v < least || v > most;
    }

    private static int[] lettersOf(int number) {
        return new int[] {number / 216, number / 36 % 6, number / 6 % 6, number % 6};
    }

    int word(int letters, int weight) {
        if (out(letters, 0, 1295) || out(weight, 1, 99)) {
            return BAD;
        }
        if (w.words.size() == 12) {
            return FULL;
        }
        w.words.add(lettersOf(letters));
        w.weights.add(weight);
        return w.words.size() - 1;
    }

    int wordTold(int word, int what) {
        if (noWord(word) || out(what, 0, 3)) {
            return BAD;
        }
        int[] l = w.words.get(word);
        int set = (int) Arrays.stream(l).distinct().mapToLong(x -> 1L << x).sum();
        int[] told = {l[0] * 216 + l[1] * 36 + l[2] * 6 + l[3], w.weights.get(word), set, fitting(w).contains(word) ? 1 : 0};
        return told[what];
    }

    int weigh(int word, int v) {
        return noWord(word) || out(v, 1, 99) ? BAD : w.weights.set(word, v);
    }

    int asker(int kind, int first) {
        if (out(kind, 0, 5) || out(first, 0, 5)) {
            return BAD;
        }
        if (w.askers.size() == 8) {
            return FULL;
        }
        w.askers.add(new int[] {kind, first});
        return w.askers.size() - 1;
    }

    int told(int asker, int what) {
        if (noAsker(asker) || out(what, 0, 3)) {
            return BAD;
        }
        int[] a = w.askers.get(asker);
        Integer next = w.hidden == null ? null : next(w, asker, w.asked, fitting(w));
        return what < 2 ? a[what] : what == 2 ? (next == null ? NONE : next) : worth(a[0], a[1]);
    }

    int score(int asker, int letter) {
        if (noAsker(asker) || out(letter, 0, 5) || isAsked(w.asked, letter)) {
            return BAD;
        }
        return score(w, w.askers.get(asker)[0], w.askers.get(asker)[1], letter, fitting(w));
    }

    int as(int asker, int kind) {
        if (noAsker(asker) || out(kind, 0, 5)) {
            return BAD;
        }
        return under(w.askers.get(asker)[0], kind) ? w.askers.get(asker)[1] : KIND;
    }

    private int change(int asker, int which, int v) {
        if (noAsker(asker) || out(v, 0, 5)) {
            return BAD;
        }
        int old = w.askers.get(asker)[which];
        w.askers.get(asker)[which] = v;
        return old;
    }

    int turns(int asker, int kind) {
        return change(asker, 0, kind);
    }

    int first(int asker, int v) {
        return change(asker, 1, v);
    }

    int deal(int n) {
        if (out(n, 1, 12)) {
            return BAD;
        }
        int came = 0;
        while (came < n && w.words.size() < 12) {
            w.words.add(lettersOf(draw(w) % 1296));
            w.weights.add(1 + draw(w) % 20);
            came++;
        }
        return came;
    }

    int seed(int v) {
        int old = w.z;
        w.z = v;
        return old;
    }

    int hide(int word) {
        if (noWord(word)) {
            return BAD;
        }
        begin(w, word);
        return fitting(w).size();
    }

    int asks(int letter) {
        if (out(letter, 0, 5)) {
            return BAD;
        }
        return w.hidden == null || isAsked(w.asked, letter) || had(w) || hung(w) ? NO : askFor(w, letter);
    }

    int play(int asker) {
        if (noAsker(asker)) {
            return BAD;
        }
        if (w.hidden == null) {
            return NO;
        }
        play(w, asker);
        return w.lines;
    }

    int choose() {
        choosing(w);
        return w.hidden == null ? NONE : w.hidden;
    }

    int gallows(int v) {
        if (out(v, 1, 9)) {
            return BAD;
        }
        int old = w.gallows;
        w.gallows = v;
        return old;
    }

    int game(int what) {
        switch (what) {
            case 0: return w.hidden == null ? NONE : w.hidden;
            case 1: return w.asked.chars().map(c -> 1 << (c - '0')).sum();
            case 2: return w.lines;
            case 3: return fitting(w).size();
            case 4: return had(w) ? 1 : 0;
            case 5: return hung(w) ? 1 : 0;
            case 6: return fitting(w).stream().mapToInt(i -> 1 << i).sum();
            default: return BAD;
        }
    }

    private World played(int word, int asker, int gallows) {
        World t = w.same();
        begin(t, word);
        t.gallows = gallows;
        play(t, asker);
        return t;
    }

    int lines(int word, int asker) {
        return noWord(word) || noAsker(asker) ? BAD : played(word, asker, 100).lines;
    }

    int worst(int asker, int what) {
        if (noAsker(asker) || out(what, 0, 1)) {
            return BAD;
        }
        if (w.words.isEmpty()) {
            return NONE;
        }
        int most = all(w).stream().mapToInt(i -> lines(i, asker)).max().getAsInt();
        return what == 1 ? most : all(w).stream().filter(i -> lines(i, asker) == most).findFirst().get();
    }

    int even(int asker) {
        if (noAsker(asker)) {
            return BAD;
        }
        for (int gallows = 1; gallows <= 9; gallows++) {
            int hung = 0;
            for (int word : all(w)) {
                hung += hung(played(word, asker, gallows)) ? w.weights.get(word) : 0;
            }
            if (hung <= sum(w, all(w)) / 2.0) {
                return gallows;
            }
        }
        return NONE;
    }

    int open(int asker) {
        if (noAsker(asker)) {
            return BAD;
        }
        List<Integer> fits = all(w);
        String asked = "";
        int lines = 0;
        while (lines < w.gallows && !doneWith(fits, asked)) {
            int letter = next(w, asker, asked, fits);
            int kept = -1;
            Map<Integer, List<Integer>> classes = classes(w, letter, fits);
            for (int places : classes.keySet()) {
                if (kept < 0 || sum(w, classes.get(places)) > sum(w, classes.get(kept))) {
                    kept = places;
                }
            }
            fits = classes.get(kept);
            lines += kept == 0 ? 1 : 0;
            asked += letter;
        }
        return lines;
    }

    private boolean doneWith(List<Integer> fits, String asked) {
        return fits.stream().allMatch(i -> allAsked(w.words.get(i), asked));
    }

    private int ways(List<Integer> fits, String asked) {
        if (doneWith(fits, asked)) {
            return 0;
        }
        int best = 99;
        for (int letter = 0; letter < 6; letter++) {
            if (!isAsked(asked, letter)) {
                best = Math.min(best, waysBy(fits, asked, letter));
            }
        }
        return best;
    }

    private int waysBy(List<Integer> fits, String asked, int letter) {
        int worst = 0;
        for (Map.Entry<Integer, List<Integer>> c : classes(w, letter, fits).entrySet()) {
            worst = Math.max(worst, ways(c.getValue(), asked + letter) + (c.getKey() == 0 ? 1 : 0));
        }
        return worst;
    }

    int best(int what) {
        if (out(what, 0, 1)) {
            return BAD;
        }
        List<Integer> fits = fitting(w);
        int least = ways(fits, w.asked);
        if (what == 0) {
            return least;
        }
        for (int letter = 0; letter < 6 && !doneWith(fits, w.asked); letter++) {
            if (!isAsked(w.asked, letter) && waysBy(fits, w.asked, letter) == least) {
                return letter;
            }
        }
        return NONE;
    }

    int sure() {
        int set = 0;
        for (int letter = 0; letter < 6; letter++) {
            List<Integer> fits = fitting(w);
            boolean all = !fits.isEmpty() && thatHave(w, fits, letter).size() == fits.size();
            set += all && !isAsked(w.asked, letter) ? 1 << letter : 0;
        }
        return set;
    }

    int behind(int asker, int n, int what) {
        if (noAsker(asker) || out(n, 1, 30) || out(what, 0, 1)) {
            return BAD;
        }
        World t = w.same();
        int[] told = new int[2];
        for (int i = 0; i < n; i++) {
            choosing(t);
            play(t, asker);
            told[0] += hung(t) ? 1 : 0;
            told[1] += t.lines;
        }
        return told[what];
    }

    int askedBy(int sheet, int what) {
        if (out(sheet, 0, 3) || out(what, 0, 1)) {
            return BAD;
        }
        if (sheets.get(sheet) == null) {
            return NOTHING;
        }
        if (w.hidden == null) {
            return NO;
        }
        int[] least = {NONE, NONE};
        for (int asker = 0; asker < w.askers.size(); asker++) {
            String order = played(w.hidden, asker, 100).asked;
            int others = 0;
            for (int k = 0; k < sheets.get(sheet).size() - 1; k++) {
                Integer v = sheets.get(sheet).get(k + 1);
                others += v != null && (k >= order.length() || order.charAt(k) - '0' != v) ? 1 : 0;
            }
            if (least[0] == NONE || others < least[1]) {
                least = new int[] {asker, others};
            }
        }
        return least[what];
    }

    int fine() {
        return w.latest.containsKey("fine") ? work(w, "fine", Map.of("l", w.lines, "k", w.asked.length())) : w.lines;
    }

    int feed(int a, int b, int c) {
        if (tape.size() > 84) {
            return FULL;
        }
        for (int number : new int[] {a, b, c}) {
            tape.add((number >> 24) & 255);
            tape.add((number >> 16) & 255);
            tape.add((number >> 8) & 255);
            tape.add(number & 255);
        }
        return tape.size();
    }

    int trim(int n) {
        if (out(n, 0, tape.size())) {
            return BAD;
        }
        tape.subList(n, tape.size()).clear();
        return n;
    }

    int text() {
        List<Integer> places = new ArrayList<>();
        List<String> parts = parts(tape, places);
        tape.clear();
        int well = goesWell(parts, places);
        if (well <= parts.size()) {
            return -100 - places.get(well);
        }
        if (w.texts.size() == 14) {
            return FULL;
        }
        w.texts.add(parts);
        w.latest.put(parts.get(0), w.texts.size() - 1);
        return w.texts.size() - 1;
    }

    int textTold(int text, int what) {
        if (out(text, 0, w.texts.size() - 1) || out(what, 0, 1)) {
            return BAD;
        }
        List<String> parts = w.texts.get(text);
        int pieces = (int) parts.stream().filter(p -> Character.isLetterOrDigit(p.charAt(0))).count() - 1;
        return what == 0 ? List.of("ask", "draw", "fine").indexOf(parts.get(0)) : pieces;
    }

    int why(int key) {
        return out(key, 0, 2) ? BAD : w.latest.getOrDefault(List.of("ask", "draw", "fine").get(key), NONE);
    }

    int sheet(int sheet, int sort, int n) {
        if (out(sheet, 0, 3) || out(sort, -1, 1) || sort >= 0 && n > 24) {
            return BAD;
        }
        if (sort < 0) {
            sheets.set(sheet, null);
            return 0;
        }
        if (n < 0) {
            return SIZE;
        }
        List<Integer> row = new ArrayList<>(List.of(sort));
        for (int i = 0; i < n; i++) {
            row.add(0);
        }
        sheets.set(sheet, row);
        return n;
    }

    int mark(int sheet, int place, int v) {
        if (out(sheet, 0, 3)) {
            return BAD;
        }
        List<Integer> row = sheets.get(sheet);
        if (row == null) {
            return NOTHING;
        }
        if (out(place, 0, row.size() - 2)) {
            return INDEX;
        }
        if (row.get(0) == 0) {
            if (v == NONE) {
                return KIND;
            }
            int low = v & 65535;
            row.set(place + 1, low > 32767 ? low - 65536 : low);
            return 1;
        }
        if (v == NONE) {
            row.set(place + 1, null);
            return 1;
        }
        if (out(v, -99999, 99999)) {
            return BAD;
        }
        row.set(place + 1, v);
        return 1;
    }

    int pour(int sheet) {
        if (out(sheet, 0, 3)) {
            return BAD;
        }
        List<Integer> row = sheets.get(sheet);
        if (row == null) {
            return NOTHING;
        }
        int otherwise = 0;
        for (int i = 0; i < w.words.size() && i < row.size() - 1; i++) {
            if (row.get(i + 1) != null) {
                int v = row.get(i + 1) < 1 ? 1 : row.get(i + 1) > 99 ? 99 : row.get(i + 1);
                otherwise += w.weights.set(i, v) != v ? 1 : 0;
            }
        }
        return otherwise;
    }

    int reads(int sheet, int asker) {
        if (out(sheet, 0, 3) || noAsker(asker)) {
            return BAD;
        }
        List<Integer> row = sheets.get(sheet);
        if (row == null) {
            return NOTHING;
        }
        for (int k = 0; k < row.size() - 1; k++) {
            Integer v = row.get(k + 1);
            if (v != null && (noWord(k) || lines(k, asker) != v)) {
                return k;
            }
        }
        return NONE;
    }

    int copy(int from, int place, int to, int at, int many) {
        if (out(from, 0, 3) || out(to, 0, 3)) {
            return BAD;
        }
        List<Integer> source = sheets.get(from);
        List<Integer> target = sheets.get(to);
        if (source == null || target == null) {
            return NOTHING;
        }
        if (!source.get(0).equals(target.get(0))) {
            return KIND;
        }
        if (place < 0 || at < 0 || many < 0 || (long) place + many > source.size() - 1 || (long) at + many > target.size() - 1) {
            return INDEX;
        }
        List<Integer> were = new ArrayList<>(source.subList(place + 1, place + 1 + many));
        for (int i = 0; i < many; i++) {
            target.set(at + 1 + i, were.get(i));
        }
        return many;
    }

    private static int thing(Object held) {
        return held == null ? 0 : held instanceof int[] ? 1 : held instanceof List ? 2 : 3;
    }

    int lay(int slot, int thing, int k) {
        if (out(slot, 0, 4) || out(thing, 0, 3) || thing == 1 && noAsker(k) || thing == 2 && out(k, 0, 3)) {
            return BAD;
        }
        if (thing == 2 && sheets.get(k) == null) {
            return NOTHING;
        }
        int held = thing(slots[slot]);
        if (thing == 0) {
            slots[slot] = null;
        } else if (thing == 1) {
            slots[slot] = w.askers.get(k).clone();
        } else if (thing == 2) {
            slots[slot] = new ArrayList<>(sheets.get(k));
        } else {
            slots[slot] = k;
        }
        return held;
    }

    int ask(int slot, int kind) {
        if (out(slot, 0, 4) || out(kind, 0, 5)) {
            return BAD;
        }
        if (thing(slots[slot]) != 1) {
            return slots[slot] == null ? NOTHING : KIND;
        }
        int[] a = (int[]) slots[slot];
        return under(a[0], kind) ? worth(a[0], a[1]) : KIND;
    }

    int item(int slot, int place) {
        if (out(slot, 0, 4)) {
            return BAD;
        }
        if (thing(slots[slot]) != 2) {
            return slots[slot] == null ? NOTHING : KIND;
        }
        List<?> row = (List<?>) slots[slot];
        if (out(place, 0, row.size() - 2)) {
            return INDEX;
        }
        return row.get(place + 1) == null ? KIND : (Integer) row.get(place + 1);
    }

    int rest(int slot, int n) {
        if (out(slot, 0, 4)) {
            return BAD;
        }
        if (thing(slots[slot]) != 3) {
            return slots[slot] == null ? NOTHING : KIND;
        }
        return n == 0 ? NO : (int) ((long) (Integer) slots[slot] % n);
    }

    int tell(int v) {
        if (waiting.size() == 60) {
            return FULL;
        }
        waiting.add(v);
        return waiting.size();
    }

    /** What the image tells; null: it doesn't. */
    List<Integer> gamesTold(int asker, int n) {
        if (image == null || asker < 0 || asker >= image.askers.size()) {
            return null;
        }
        World t = image.same();
        List<Integer> told = new ArrayList<>();
        for (int i = 0; i < n; i++) {
            choosing(t);
            play(t, asker);
            told.add(t.hidden == null ? -1 : t.hidden);
            told.add(t.lines);
        }
        return told;
    }

    int check(int asker, int n) {
        List<Integer> waited = new ArrayList<>(waiting);
        waiting.clear();
        if (out(n, 1, 20) || out(asker, 0, 7)) {
            return BAD;
        }
        List<Integer> told = gamesTold(asker, n);
        if (told == null) {
            return NO;
        }
        int right = 0;
        while (right < told.size() && right < waited.size() && told.get(right).equals(waited.get(right))) {
            right++;
        }
        return right == told.size() && right == waited.size() ? 0 : 1 + right;
    }

    int keep() {
        image = w.same();
        return w.words.size();
    }

    int back() {
        if (image == null) {
            return NO;
        }
        w = image.same();
        return w.words.size();
    }

    int count(int what) {
        switch (what) {
            case 0: return w.words.size();
            case 1: return w.askers.size();
            case 2: return w.asked.length();
            case 3: return w.lines;
            case 4: return w.gallows;
            case 5: return w.texts.size();
            case 6: return waiting.size();
            case 7: return tape.size();
            case 8: return w.z;
            default: return BAD;
        }
    }

    /** The letters that an asker asks of the word that is hidden, one behind the other. */
    String order(int asker) {
        return w.hidden == null || noAsker(asker) ? "" : played(w.hidden, asker, 100).asked;
    }
}
