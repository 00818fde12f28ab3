/**
 * Letters of a hidden word, after ../shared/DOC.md: the words in capitals in the comments are the document's.
 */
public final class HangedWord {
    public static final int BAD = -1000000001, NO = -1000000002, FULL = -1000000003, NONE = -1000000005, NOTHING = -1000000011, KIND = -1000000012, INDEX = -1000000013, SIZE = -1000000014;

    private static final int LETTERS = 6, ALL_LETTERS = 63, PLACES = 4;
    private static final int MOST_WORDS = 12, MOST_ASKERS = 8, MOST_TEXTS = 14, MOST_BYTES = 96, MOST_WAITING = 60;
    private static final int LETTER_ROWS = 1296, MOST_WEIGHT = 99, MOST_GALLOWS = 9;
    private static final int SHEETS = 4, SLOTS = 5, MOST_PLACES = 24, MOST_OF_FLOATS = 99999;
    private static final int SHORTS = 0, FLOATS = 1, MISSING = -1;
    private static final int ASKER = 0, FREQUENT = 1, FITTING = 2, SAFE = 3, PARTING = 4, WASTED = 5, KINDS = 6;
    private static final int[] KIND_ABOVE = {-1, ASKER, ASKER, FREQUENT, FITTING, ASKER};
    private static final int KEY_ASK = 0, KEY_DRAW = 1, KEY_FINE = 2, KEYS = 3;
    private static final int HOLDS_NOTHING = 0, HOLDS_ASKER = 1, HOLDS_SHEET = 2, HOLDS_NUMBER = 3;

    private final State now = new State();
    private final State image = new State();
    private final State thought = new State();
    private final Ways ways = new Ways();
    private final Sheet[] sheets = new Sheet[SHEETS];
    private final Slot[] slots = new Slot[SLOTS];
    private final Tape tape = new Tape();
    private final int[] waiting = new int[MOST_WAITING];
    private boolean imageKept = false;
    private int waitingCount = 0;

    public HangedWord() {
        for (int i = 0; i < SHEETS; i++) {
            sheets[i] = new Sheet();
        }
        for (int i = 0; i < SLOTS; i++) {
            slots[i] = new Slot();
        }
    }

    // ---- words, askers

    public int word(int letters, int weight) {
        if (letters < 0 || letters >= LETTER_ROWS || !isWeight(weight)) {
            return BAD;
        }
        return now.addWord(letters, weight);
    }

    public int wordTold(int word, int what) {
        if (!isWord(word)) {
            return BAD;
        }
        switch (what) {
            case 0: return now.letters[word];
            case 1: return now.weights[word];
            case 2: return now.lettersOf(word);
            case 3: return now.fitting() >> word & 1;
            default: return BAD;
        }
    }

    public int weigh(int word, int v) {
        if (!isWord(word) || !isWeight(v)) {
            return BAD;
        }
        int old = now.weights[word];
        now.weights[word] = v;
        return old;
    }

    public int asker(int kind, int first) {
        if (!isKind(kind) || !isLetter(first)) {
            return BAD;
        }
        return now.addAsker(kind, first);
    }

    public int told(int asker, int what) {
        if (!isAsker(asker)) {
            return BAD;
        }
        switch (what) {
            case 0: return now.kinds[asker];
            case 1: return now.firsts[asker];
            case 2: return nextNow(asker);
            case 3: return worthOf(now.kinds[asker], now.firsts[asker]);
            default: return BAD;
        }
    }

    public int score(int asker, int letter) {
        if (!isAsker(asker) || !isLetter(letter) || isIn(now.asked, letter)) {
            return BAD;
        }
        return now.scoreOf(asker, letter, now.fitting());
    }

    public int as(int asker, int kind) {
        if (!isAsker(asker) || !isKind(kind)) {
            return BAD;
        }
        return isUnder(now.kinds[asker], kind) ? now.firsts[asker] : KIND;
    }

    public int turns(int asker, int kind) {
        if (!isAsker(asker) || !isKind(kind)) {
            return BAD;
        }
        int old = now.kinds[asker];
        now.kinds[asker] = kind;
        return old;
    }

    public int first(int asker, int v) {
        if (!isAsker(asker) || !isLetter(v)) {
            return BAD;
        }
        int old = now.firsts[asker];
        now.firsts[asker] = v;
        return old;
    }

    public int deal(int n) {
        if (n < 1 || n > MOST_WORDS) {
            return BAD;
        }
        int come = Math.min(n, MOST_WORDS - now.words);
        for (int i = 0; i < come; i++) {
            int letters = now.draws() % LETTER_ROWS;
            now.addWord(letters, 1 + now.draws() % 20);
        }
        return come;
    }

    public int seed(int v) {
        int old = now.z;
        now.z = v;
        return old;
    }

    // ---- a game

    public int hide(int word) {
        if (!isWord(word)) {
            return BAD;
        }
        now.begin(word);
        return Integer.bitCount(now.fitting());
    }

    public int asks(int letter) {
        if (!isLetter(letter)) {
            return BAD;
        }
        return now.isOpenTo(letter) ? now.askFor(letter) : NO;
    }

    public int play(int asker) {
        if (!isAsker(asker)) {
            return BAD;
        }
        if (now.hidden < 0) {
            return NO;
        }
        now.playBy(asker);
        return now.lines;
    }

    public int choose() {
        now.chooseHidden();
        return now.hidden < 0 ? NONE : now.hidden;
    }

    public int gallows(int v) {
        if (v < 1 || v > MOST_GALLOWS) {
            return BAD;
        }
        int old = now.gallows;
        now.gallows = v;
        return old;
    }

    public int game(int what) {
        switch (what) {
            case 0: return now.hidden < 0 ? NONE : now.hidden;
            case 1: return now.asked;
            case 2: return now.lines;
            case 3: return Integer.bitCount(now.fitting());
            case 4: return now.isHad() ? 1 : 0;
            case 5: return now.isHung() ? 1 : 0;
            case 6: return now.fitting();
            default: return BAD;
        }
    }

    // ---- what will be

    public int lines(int word, int asker) {
        return isWord(word) && isAsker(asker) ? now.linesOf(word, asker) : BAD;
    }

    public int worst(int asker, int what) {
        if (!isAsker(asker) || what < 0 || what > 1) {
            return BAD;
        }
        int worstWord = NONE;
        int most = -1;
        for (int word = 0; word < now.words; word++) {
            int needed = now.linesOf(word, asker);
            if (needed > most) {
                most = needed;
                worstWord = word;
            }
        }
        return worstWord == NONE || what == 0 ? worstWord : most;
    }

    public int even(int asker) {
        if (!isAsker(asker)) {
            return BAD;
        }
        return now.evenGallows(asker);
    }

    public int open(int asker) {
        return isAsker(asker) ? now.openLines(asker) : BAD;
    }

    public int best(int what) {
        if (what < 0 || what > 1) {
            return BAD;
        }
        ways.foresee(now);
        return what == 0 ? ways.lines : ways.letter;
    }

    public int sure() {
        return now.sureLetters();
    }

    public int behind(int asker, int n, int what) {
        if (!isAsker(asker) || n < 1 || n > 30 || what < 0 || what > 1) {
            return BAD;
        }
        thought.become(now);
        int hung = 0;
        int linesOfAll = 0;
        for (int i = 0; i < n; i++) {
            thought.chooseHidden();
            thought.playBy(asker);
            hung += thought.isHung() ? 1 : 0;
            linesOfAll += thought.lines;
        }
        return what == 0 ? hung : linesOfAll;
    }

    public int askedBy(int sheet, int what) {
        if (!isSheet(sheet) || what < 0 || what > 1) {
            return BAD;
        }
        Sheet row = sheets[sheet];
        if (row.isMissing()) {
            return NOTHING;
        }
        if (now.hidden < 0) {
            return NO;
        }
        int nearest = NONE;
        int fewest = NONE;
        for (int asker = 0; asker < now.askers; asker++) {
            int others = now.othersThan(row, asker);
            if (nearest == NONE || others < fewest) {
                nearest = asker;
                fewest = others;
            }
        }
        return what == 0 ? nearest : fewest;
    }

    public int fine() {
        return now.fineGiven();
    }

    // ---- texts

    public int feed(int a, int b, int c) {
        if (tape.length + 12 > MOST_BYTES) {
            return FULL;
        }
        tape.takeFour(a);
        tape.takeFour(b);
        tape.takeFour(c);
        return tape.length;
    }

    public int trim(int n) {
        if (n < 0 || n > tape.length) {
            return BAD;
        }
        tape.length = n;
        return n;
    }

    public int text() {
        int answer = tape.isText() ? now.addText(tape.textRead()) : -100 - tape.place;
        tape.length = 0;
        return answer;
    }

    public int textTold(int text, int what) {
        if (text < 0 || text >= now.textCount) {
            return BAD;
        }
        switch (what) {
            case 0: return now.texts[text].key;
            case 1: return now.texts[text].pieces;
            default: return BAD;
        }
    }

    public int why(int key) {
        if (key < 0 || key >= KEYS) {
            return BAD;
        }
        return now.latest[key] < 0 ? NONE : now.latest[key];
    }

    // ---- sheets, slots

    public int sheet(int sheet, int sort, int n) {
        if (!isSheet(sheet) || sort < MISSING || sort > FLOATS) {
            return BAD;
        }
        if (sort == MISSING) {
            sheets[sheet].clear(MISSING, 0);
            return 0;
        }
        if (n > MOST_PLACES) {
            return BAD;
        }
        if (n < 0) {
            return SIZE;
        }
        sheets[sheet].clear(sort, n);
        return n;
    }

    public int mark(int sheet, int place, int v) {
        if (!isSheet(sheet)) {
            return BAD;
        }
        Sheet row = sheets[sheet];
        if (row.isMissing()) {
            return NOTHING;
        }
        if (!row.hasPlace(place)) {
            return INDEX;
        }
        if (row.sort == SHORTS) {
            if (v == NONE) {
                return KIND;
            }
            row.places[place] = (short) v;
            return 1;
        }
        if (v != NONE && (v < -MOST_OF_FLOATS || v > MOST_OF_FLOATS)) {
            return BAD;
        }
        row.places[place] = v;
        return 1;
    }

    public int pour(int sheet) {
        if (!isSheet(sheet)) {
            return BAD;
        }
        Sheet row = sheets[sheet];
        if (row.isMissing()) {
            return NOTHING;
        }
        int otherwise = 0;
        for (int word = 0; word < now.words; word++) {
            if (row.hasNumber(word)) {
                int weight = within(row.places[word], 1, MOST_WEIGHT);
                otherwise += weight == now.weights[word] ? 0 : 1;
                now.weights[word] = weight;
            }
        }
        return otherwise;
    }

    public int reads(int sheet, int asker) {
        if (!isSheet(sheet) || !isAsker(asker)) {
            return BAD;
        }
        Sheet row = sheets[sheet];
        if (row.isMissing()) {
            return NOTHING;
        }
        for (int k = 0; k < row.length; k++) {
            if (row.hasNumber(k) && (k >= now.words || row.places[k] != now.linesOf(k, asker))) {
                return k;
            }
        }
        return NONE;
    }

    public int copy(int from, int place, int to, int at, int many) {
        if (!isSheet(from) || !isSheet(to)) {
            return BAD;
        }
        Sheet source = sheets[from];
        Sheet target = sheets[to];
        if (source.isMissing() || target.isMissing()) {
            return NOTHING;
        }
        if (source.sort != target.sort) {
            return KIND;
        }
        if (!source.hasPlaces(place, many) || !target.hasPlaces(at, many)) {
            return INDEX;
        }
        System.arraycopy(source.places, place, target.places, at, many);
        return many;
    }

    public int lay(int slot, int thing, int k) {
        if (!isSlot(slot) || thing < HOLDS_NOTHING || thing > HOLDS_NUMBER) {
            return BAD;
        }
        if (thing == HOLDS_ASKER && !isAsker(k) || thing == HOLDS_SHEET && !isSheet(k)) {
            return BAD;
        }
        if (thing == HOLDS_SHEET && sheets[k].isMissing()) {
            return NOTHING;
        }
        Slot held = slots[slot];
        int old = held.thing;
        held.thing = thing;
        if (thing == HOLDS_ASKER) {
            held.kind = now.kinds[k];
            held.first = now.firsts[k];
        } else if (thing == HOLDS_SHEET) {
            held.sheet.become(sheets[k]);
        } else if (thing == HOLDS_NUMBER) {
            held.number = k;
        }
        return old;
    }

    public int ask(int slot, int kind) {
        if (!isSlot(slot) || !isKind(kind)) {
            return BAD;
        }
        Slot held = slots[slot];
        if (held.thing == HOLDS_NOTHING) {
            return NOTHING;
        }
        if (held.thing != HOLDS_ASKER || !isUnder(held.kind, kind)) {
            return KIND;
        }
        return worthOf(held.kind, held.first);
    }

    public int item(int slot, int place) {
        if (!isSlot(slot)) {
            return BAD;
        }
        Slot held = slots[slot];
        if (held.thing == HOLDS_NOTHING) {
            return NOTHING;
        }
        if (held.thing != HOLDS_SHEET) {
            return KIND;
        }
        if (!held.sheet.hasPlace(place)) {
            return INDEX;
        }
        return held.sheet.hasNumber(place) ? held.sheet.places[place] : KIND;
    }

    public int rest(int slot, int n) {
        if (!isSlot(slot)) {
            return BAD;
        }
        Slot held = slots[slot];
        if (held.thing == HOLDS_NOTHING) {
            return NOTHING;
        }
        if (held.thing != HOLDS_NUMBER) {
            return KIND;
        }
        return n == 0 ? NO : held.number % n;
    }

    // ---- rows, images

    public int tell(int v) {
        if (waitingCount >= MOST_WAITING) {
            return FULL;
        }
        waiting[waitingCount] = v;
        waitingCount++;
        return waitingCount;
    }

    public int check(int asker, int n) {
        int waited = waitingCount;
        waitingCount = 0;
        if (n < 1 || n > 20 || asker < 0 || asker >= MOST_ASKERS) {
            return BAD;
        }
        if (!imageKept || asker >= image.askers) {
            return NO;
        }
        thought.become(image);
        int right = 0;
        for (int i = 0; i < n; i++) {
            thought.chooseHidden();
            thought.playBy(asker);
            if (right >= waited || waiting[right] != thought.hidden) {
                return 1 + right;
            }
            right++;
            if (right >= waited || waiting[right] != thought.lines) {
                return 1 + right;
            }
            right++;
        }
        return right < waited ? 1 + right : 0;
    }

    public int keep() {
        image.become(now);
        imageKept = true;
        return now.words;
    }

    public int back() {
        if (!imageKept) {
            return NO;
        }
        now.become(image);
        return now.words;
    }

    public int count(int what) {
        switch (what) {
            case 0: return now.words;
            case 1: return now.askers;
            case 2: return Integer.bitCount(now.asked);
            case 3: return now.lines;
            case 4: return now.gallows;
            case 5: return now.textCount;
            case 6: return waitingCount;
            case 7: return tape.length;
            case 8: return now.z;
            default: return BAD;
        }
    }

    // ---- what the calls share

    private boolean isWord(int word) {
        return word >= 0 && word < now.words;
    }

    private boolean isAsker(int asker) {
        return asker >= 0 && asker < now.askers;
    }

    private static boolean isLetter(int letter) {
        return letter >= 0 && letter < LETTERS;
    }

    private static boolean isWeight(int weight) {
        return weight >= 1 && weight <= MOST_WEIGHT;
    }

    private static boolean isKind(int kind) {
        return kind >= 0 && kind < KINDS;
    }

    private static boolean isSheet(int sheet) {
        return sheet >= 0 && sheet < SHEETS;
    }

    private static boolean isSlot(int slot) {
        return slot >= 0 && slot < SLOTS;
    }

    private static boolean isIn(int set, int element) {
        return (set >> element & 1) == 1;
    }

    private static int within(int v, int least, int most) {
        return Math.max(least, Math.min(most, v));
    }

    /** Whether a KIND is another one, or is under it. */
    private static boolean isUnder(int kind, int other) {
        int above = kind;
        for (int i = 0; i < KINDS && isKind(above); i++) {
            if (above == other) {
                return true;
            }
            above = KIND_ABOVE[above];
        }
        return false;
    }

    private static int worthOf(int kind, int first) {
        switch (kind) {
            case FREQUENT: return first + 10;
            case SAFE: return 2 * (first + 10);
            case FITTING: return 50 - first;
            case PARTING: return 50 - first - 6;
            case WASTED: return 1;
            default: return first;
        }
    }

    private int nextNow(int asker) {
        if (now.hidden < 0 || now.asked == ALL_LETTERS) {
            return NONE;
        }
        return now.nextOf(asker, now.asked, now.fitting());
    }

    /** All that AN IMAGE keeps, and the thinking that needs no more than that. */
    private static final class State {
        final int[] letters = new int[MOST_WORDS];
        final int[] weights = new int[MOST_WORDS];
        /** For each WORD and LETTER the set of places; two WORDS fit alike when these agree for all ASKED. */
        final int[] places = new int[MOST_WORDS * LETTERS];
        int words = 0;
        final int[] kinds = new int[MOST_ASKERS];
        final int[] firsts = new int[MOST_ASKERS];
        int askers = 0;
        int hidden = -1;
        int asked = 0;
        int lines = 0;
        int gallows = 6;
        int z = 1;
        final Text[] texts = new Text[MOST_TEXTS];
        int textCount = 0;
        final int[] latest = {-1, -1, -1};
        private final int[] stack = new int[MOST_BYTES];
        private final int[] classWeights = new int[1 << PLACES];
        private final int[] weightByLines = new int[LETTERS + 1];

        void become(State other) {
            System.arraycopy(other.letters, 0, letters, 0, MOST_WORDS);
            System.arraycopy(other.weights, 0, weights, 0, MOST_WORDS);
            System.arraycopy(other.places, 0, places, 0, MOST_WORDS * LETTERS);
            System.arraycopy(other.kinds, 0, kinds, 0, MOST_ASKERS);
            System.arraycopy(other.firsts, 0, firsts, 0, MOST_ASKERS);
            System.arraycopy(other.latest, 0, latest, 0, KEYS);
            for (int i = 0; i < MOST_TEXTS; i++) {
                texts[i] = other.texts[i];
            }
            words = other.words;
            askers = other.askers;
            textCount = other.textCount;
            hidden = other.hidden;
            asked = other.asked;
            lines = other.lines;
            gallows = other.gallows;
            z = other.z;
        }

        int addWord(int row, int weight) {
            if (words >= MOST_WORDS) {
                return FULL;
            }
            int word = words;
            letters[word] = row;
            weights[word] = weight;
            for (int letter = 0; letter < LETTERS; letter++) {
                places[word * LETTERS + letter] = 0;
            }
            int left = row;
            for (int place = PLACES - 1; place >= 0; place--) {
                places[word * LETTERS + left % LETTERS] |= 1 << place;
                left /= LETTERS;
            }
            words++;
            return word;
        }

        int addAsker(int kind, int first) {
            if (askers >= MOST_ASKERS) {
                return FULL;
            }
            kinds[askers] = kind;
            firsts[askers] = first;
            askers++;
            return askers - 1;
        }

        int addText(Text text) {
            if (textCount >= MOST_TEXTS) {
                return FULL;
            }
            texts[textCount] = text;
            latest[text.key] = textCount;
            textCount++;
            return textCount - 1;
        }

        int draws() {
            z = z * 1103515245 + 12345;
            return z >>> 8;
        }

        // ---- words

        int placesOf(int word, int letter) {
            int at = word * LETTERS + letter;
            return at >= 0 && at < places.length ? places[at] : 0;
        }

        int lettersOf(int word) {
            int set = 0;
            for (int letter = 0; letter < LETTERS; letter++) {
                set |= placesOf(word, letter) != 0 ? 1 << letter : 0;
            }
            return set;
        }

        int allWords() {
            return (1 << words) - 1;
        }

        int weightOf(int set) {
            int sum = 0;
            for (int word = 0; word < words; word++) {
                sum += isIn(set, word) ? weights[word] : 0;
            }
            return sum;
        }

        int having(int letter, int set) {
            int found = 0;
            for (int word = 0; word < words; word++) {
                found |= isIn(set, word) && placesOf(word, letter) != 0 ? 1 << word : 0;
            }
            return found;
        }

        /** The WORDS that FIT if this one were HIDDEN. */
        int fittingWith(int word, int askedThen) {
            int fits = 0;
            for (int other = 0; other < words; other++) {
                fits |= fitTogether(word, other, askedThen) ? 1 << other : 0;
            }
            return fits;
        }

        private boolean fitTogether(int word, int other, int askedThen) {
            for (int letter = 0; letter < LETTERS; letter++) {
                if (isIn(askedThen, letter) && placesOf(word, letter) != placesOf(other, letter)) {
                    return false;
                }
            }
            return true;
        }

        int fitting() {
            return hidden < 0 ? 0 : fittingWith(hidden, asked);
        }

        boolean allAreAsked(int set, int askedThen) {
            for (int word = 0; word < words; word++) {
                if (isIn(set, word) && (lettersOf(word) & ~askedThen) != 0) {
                    return false;
                }
            }
            return true;
        }

        int sureLetters() {
            int fits = fitting();
            if (fits == 0) {
                return 0;
            }
            int set = ALL_LETTERS & ~asked;
            for (int word = 0; word < words; word++) {
                set &= isIn(fits, word) ? lettersOf(word) : ALL_LETTERS;
            }
            return set;
        }

        // ---- askers

        int scoreOf(int asker, int letter, int fits) {
            switch (kinds[asker]) {
                case FREQUENT: return frequency(asker, letter);
                case SAFE: return frequency(asker, letter) + 1000 * Integer.bitCount(having(letter, fits));
                case FITTING: return weightOf(having(letter, fits));
                case PARTING: return 5000 - classWeights[greatestClass(letter, fits)];
                case WASTED: return 9999 - plainScore(asker, letter, fits);
                default: return plainScore(asker, letter, fits);
            }
        }

        private int plainScore(int asker, int letter, int fits) {
            boolean isFirst = firsts[asker] == letter;
            Text text = textFor(KEY_ASK);
            if (text == null) {
                return isFirst ? 100 : 0;
            }
            int those = having(letter, fits);
            int given = text.value(Integer.bitCount(those), weightOf(those), isFirst ? 1 : 0, stack);
            return within(given, 0, 9999);
        }

        private int frequency(int asker, int letter) {
            return weightOf(having(letter, allWords())) + (firsts[asker] == letter ? 1 : 0);
        }

        /** The places that tell the greatest CLASS, the least of several; leaves all sums in classWeights. */
        private int greatestClass(int letter, int fits) {
            for (int set = 0; set < classWeights.length; set++) {
                classWeights[set] = 0;
            }
            for (int word = 0; word < words; word++) {
                classWeights[placesOf(word, letter)] += isIn(fits, word) ? weights[word] : 0;
            }
            int greatest = 0;
            for (int set = 1; set < classWeights.length; set++) {
                greatest = classWeights[set] > classWeights[greatest] ? set : greatest;
            }
            return greatest;
        }

        /** -1: all LETTERS are ASKED. */
        int nextOf(int asker, int askedThen, int fits) {
            int next = -1;
            int greatest = 0;
            for (int letter = 0; letter < LETTERS; letter++) {
                if (!isIn(askedThen, letter)) {
                    int score = scoreOf(asker, letter, fits);
                    if (next < 0 || score > greatest) {
                        next = letter;
                        greatest = score;
                    }
                }
            }
            return next;
        }

        // ---- a game

        void begin(int word) {
            hidden = word;
            asked = 0;
            lines = 0;
        }

        boolean isHad() {
            return hidden >= 0 && (lettersOf(hidden) & ~asked) == 0;
        }

        boolean isHung() {
            return !isHad() && lines >= gallows;
        }

        boolean isOpenTo(int letter) {
            return hidden >= 0 && !isIn(asked, letter) && !isHad() && !isHung();
        }

        /** Only a LETTER that the GAME is open to. */
        int askFor(int letter) {
            asked |= 1 << letter;
            int found = placesOf(hidden, letter);
            lines += found == 0 ? 1 : 0;
            return found;
        }

        void playBy(int asker) {
            for (int turn = 0; turn < LETTERS; turn++) {
                int letter = nextOf(asker, asked, fitting());
                if (letter < 0 || !isOpenTo(letter)) {
                    return;
                }
                askFor(letter);
            }
        }

        void chooseHidden() {
            int all = 0;
            for (int word = 0; word < words; word++) {
                all += timesOf(word);
            }
            begin(all > 0 ? wordAt(draws() % all) : -1);
        }

        private int timesOf(int word) {
            Text text = textFor(KEY_DRAW);
            return text == null ? weights[word] : within(text.value(weights[word], word, 0, stack), 0, 999);
        }

        private int wordAt(int number) {
            int left = number;
            for (int word = 0; word < words; word++) {
                left -= timesOf(word);
                if (left < 0) {
                    return word;
                }
            }
            return -1;
        }

        int fineGiven() {
            Text text = textFor(KEY_FINE);
            return text == null ? lines : text.value(lines, Integer.bitCount(asked), 0, stack);
        }

        /** The TEXT that counts for a KEY; null: there is none. */
        private Text textFor(int key) {
            int text = latest[key];
            return text >= 0 && text < textCount ? texts[text] : null;
        }

        // ---- what will be

        int linesOf(int word, int asker) {
            int linesThen = 0;
            int askedThen = 0;
            for (int turn = 0; turn < LETTERS && (lettersOf(word) & ~askedThen) != 0; turn++) {
                int letter = nextOf(asker, askedThen, fittingWith(word, askedThen));
                linesThen += placesOf(word, letter) == 0 ? 1 : 0;
                askedThen |= 1 << letter;
            }
            return linesThen;
        }

        /** A WORD is HUNG if its LINES come to GALLOWS: the LETTER that makes a GAME HAD costs no line. */
        int evenGallows(int asker) {
            for (int i = 0; i < weightByLines.length; i++) {
                weightByLines[i] = 0;
            }
            for (int word = 0; word < words; word++) {
                weightByLines[linesOf(word, asker)] += weights[word];
            }
            int all = weightOf(allWords());
            int hung = all - weightByLines[0];
            for (int limit = 1; limit <= MOST_GALLOWS; limit++) {
                if (2 * hung <= all) {
                    return limit;
                }
                hung -= limit < weightByLines.length ? weightByLines[limit] : 0;
            }
            return NONE;
        }

        int openLines(int asker) {
            int linesThen = 0;
            int askedThen = 0;
            int fits = allWords();
            for (int turn = 0; turn < LETTERS; turn++) {
                if (linesThen >= gallows || allAreAsked(fits, askedThen)) {
                    return linesThen;
                }
                int letter = nextOf(asker, askedThen, fits);
                int kept = greatestClass(letter, fits);
                fits = havingAt(letter, kept, fits);
                linesThen += kept == 0 ? 1 : 0;
                askedThen |= 1 << letter;
            }
            return linesThen;
        }

        private int havingAt(int letter, int those, int set) {
            int found = 0;
            for (int word = 0; word < words; word++) {
                found |= isIn(set, word) && placesOf(word, letter) == those ? 1 << word : 0;
            }
            return found;
        }

        /** At how many places of a SHEET another LETTER stands than the one that an ASKER asks; only with HIDDEN. */
        int othersThan(Sheet row, int asker) {
            int others = 0;
            int askedThen = 0;
            for (int k = 0; k < row.length; k++) {
                boolean had = (lettersOf(hidden) & ~askedThen) == 0;
                int letter = had ? -1 : nextOf(asker, askedThen, fittingWith(hidden, askedThen));
                if (row.hasNumber(k) && (had || row.places[k] != letter)) {
                    others++;
                }
                askedThen |= had ? 0 : 1 << letter;
            }
            return others;
        }
    }

    /** BEST, from all LETTERS ASKED backwards: each set of ASKED needs only larger ones. */
    private static final class Ways {
        /** For each set of ASKED and each WORD that FITS: the LINES to come at worst, if that is HIDDEN. */
        private final int[] least = new int[(ALL_LETTERS + 1) * MOST_WORDS];
        int lines = 0;
        int letter = NONE;

        void foresee(State state) {
            lines = 0;
            letter = NONE;
            int fits = state.fitting();
            if (state.hidden < 0) {
                return;
            }
            for (int asked = ALL_LETTERS; asked >= state.asked; asked--) {
                if ((asked & state.asked) == state.asked) {
                    foreseeFrom(state, asked, fits);
                }
            }
            lines = least[state.asked * MOST_WORDS + state.hidden];
            letter = beginning(state, fits);
        }

        private void foreseeFrom(State state, int asked, int fits) {
            for (int word = 0; word < state.words; word++) {
                if (isIn(fits, word)) {
                    least[asked * MOST_WORDS + word] = leastFor(state, asked, word);
                }
            }
        }

        private int leastFor(State state, int asked, int word) {
            if ((state.lettersOf(word) & ~asked) == 0) {
                return 0;
            }
            int fits = state.fittingWith(word, asked);
            int best = LETTERS;
            for (int next = 0; next < LETTERS; next++) {
                if (!isIn(asked, next)) {
                    best = Math.min(best, atWorst(state, asked, next, fits));
                }
            }
            return best;
        }

        private int atWorst(State state, int asked, int next, int fits) {
            int worst = 0;
            for (int word = 0; word < state.words; word++) {
                if (isIn(fits, word)) {
                    int line = state.placesOf(word, next) == 0 ? 1 : 0;
                    worst = Math.max(worst, line + least[(asked | 1 << next) * MOST_WORDS + word]);
                }
            }
            return worst;
        }

        private int beginning(State state, int fits) {
            if (state.allAreAsked(fits, state.asked)) {
                return NONE;
            }
            for (int next = 0; next < LETTERS; next++) {
                if (!isIn(state.asked, next) && atWorst(state, state.asked, next, fits) == lines) {
                    return next;
                }
            }
            return NONE;
        }
    }

    /** A TEXT in the order in which it is worked out: what is worked on stands ahead of the sign. */
    private static final class Text {
        static final int FIRST_NAME = -1, LAST_NAME = -3;

        final int key;
        final int pieces;
        private final int[] steps;

        Text(int key, int pieces, int[] from, int length) {
            this.key = key;
            this.pieces = pieces;
            steps = new int[length];
            System.arraycopy(from, 0, steps, 0, length);
        }

        /** The values of the KEY's NAMES are told by a, b, c; the stack has room for all steps. */
        int value(int a, int b, int c, int[] stack) {
            int top = -1;
            for (int i = 0; i < steps.length; i++) {
                int step = steps[i];
                if (step >= LAST_NAME && top + 1 < stack.length) {
                    top++;
                    stack[top] = valueOf(step, a, b, c);
                } else if (step == -'!' && top >= 0) {
                    stack[top] = stack[top] == 0 ? 1 : 0;
                } else if (top >= 1) {
                    top--;
                    stack[top] = joined(-step, stack[top], stack[top + 1]);
                }
            }
            return top >= 0 ? stack[top] : 0;
        }

        private static int valueOf(int step, int a, int b, int c) {
            if (step >= 0) {
                return step;
            }
            return step == FIRST_NAME ? a : step == LAST_NAME ? c : b;
        }

        private static int joined(int sign, int x, int y) {
            switch (sign) {
                case '|': return x != 0 || y != 0 ? 1 : 0;
                case '&': return x != 0 && y != 0 ? 1 : 0;
                case '<': return x < y ? 1 : 0;
                case '=': return x == y ? 1 : 0;
                case '>': return x > y ? 1 : 0;
                case '+': return x + y;
                case '-': return x - y;
                case '*': return x * y;
                default: return y == 0 ? 0 : x / y;
            }
        }
    }

    /** THE TAPE. It reads itself as a TEXT: nothing is passed over till it goes on so, and FAULT is where that ends. */
    private static final class Tape {
        private static final int END = 0, WORD = 1, DIGITS = 2, SIGN = 3;
        private static final int DEEPEST = 8, MOST_DIGITS = 4;

        private final int[] bytes = new int[MOST_BYTES];
        int length = 0;
        /** Of the word or sign at hand: where it begins, where it ends, what it is, whether it is right behind a word. */
        int place = 0;
        private int end = 0;
        private int sort = END;
        private boolean needsBlank = false;
        private final int[] steps = new int[MOST_BYTES];
        private int stepCount = 0;
        private int key = -1;
        private int pieces = 0;
        /** How many are open. */
        private int brackets = 0;
        private int nots = 0;

        /** Four bytes of a number, the highest first. */
        void takeFour(int number) {
            for (int shift = 24; shift >= 0; shift -= 8) {
                if (length < MOST_BYTES) {
                    bytes[length] = number >>> shift & 255;
                    length++;
                }
            }
        }

        /** Whether it is a TEXT; else FAULT is at place. */
        boolean isText() {
            end = 0;
            sort = END;
            stepCount = 0;
            pieces = 0;
            goOn();
            key = keyAtHand();
            if (key < 0) {
                return false;
            }
            goOn();
            return readEither() && sort == END;
        }

        /** Only after isText was true. */
        Text textRead() {
            return new Text(key, pieces, steps, stepCount);
        }

        private int keyAtHand() {
            return isAtHand("ask") ? KEY_ASK : isAtHand("draw") ? KEY_DRAW : isAtHand("fine") ? KEY_FINE : -1;
        }

        /** The NAMES of the KEY, in the order in which their values are told. */
        private String names() {
            return key == KEY_ASK ? "nwf" : key == KEY_DRAW ? "wn" : "lk";
        }

        // ---- words and signs

        private void goOn() {
            boolean behindWord = sort == WORD || sort == DIGITS;
            int from = end;
            place = from;
            while (place < length && bytes[place] == ' ') {
                place++;
            }
            sort = sortAt(place);
            needsBlank = behindWord && place == from;
            end = sort == END ? place : place + 1;
            while (sort != SIGN && end < length && sortAt(end) == sort) {
                end++;
            }
        }

        private int sortAt(int at) {
            if (at < 0 || at >= length) {
                return END;
            }
            int sign = bytes[at];
            return sign >= 'a' && sign <= 'z' ? WORD : sign >= '0' && sign <= '9' ? DIGITS : SIGN;
        }

        private boolean isSign(char sign) {
            return sort == SIGN && place < length && bytes[place] == sign;
        }

        private boolean isAtHand(String word) {
            if (sort != WORD || end - place != word.length()) {
                return false;
            }
            for (int i = 0; i < word.length(); i++) {
                if (bytes[place + i] != word.charAt(i)) {
                    return false;
                }
            }
            return true;
        }

        private void step(int step) {
            if (stepCount < steps.length) {
                steps[stepCount] = step;
                stepCount++;
            }
        }

        // ---- E, the loosest first

        private boolean readEither() {
            boolean goes = readBoth();
            for (int i = 0; i < MOST_BYTES && goes && isSign('|'); i++) {
                goOn();
                goes = readBoth();
                step(-'|');
            }
            return goes;
        }

        private boolean readBoth() {
            boolean goes = readTest();
            for (int i = 0; i < MOST_BYTES && goes && isSign('&'); i++) {
                goOn();
                goes = readTest();
                step(-'&');
            }
            return goes;
        }

        private boolean readTest() {
            if (!readSum()) {
                return false;
            }
            if (!isSign('<') && !isSign('=') && !isSign('>')) {
                return true;
            }
            int sign = bytes[place];
            goOn();
            boolean goes = readSum();
            step(-sign);
            return goes;
        }

        private boolean readSum() {
            boolean goes = readTerm();
            for (int i = 0; i < MOST_BYTES && goes && (isSign('+') || isSign('-')); i++) {
                int sign = bytes[place];
                goOn();
                goes = readTerm();
                step(-sign);
            }
            return goes;
        }

        private boolean readTerm() {
            boolean goes = readPiece();
            for (int i = 0; i < MOST_BYTES && goes && (isSign('*') || isSign('/')); i++) {
                int sign = bytes[place];
                goOn();
                goes = readPiece();
                step(-sign);
            }
            return goes;
        }

        private boolean readPiece() {
            if (sort == DIGITS) {
                return readNumber();
            }
            if (sort == WORD) {
                return readName();
            }
            return isSign('!') ? readNot() : isSign('(') && readBracket();
        }

        private boolean readNumber() {
            if (needsBlank || end - place > MOST_DIGITS) {
                return false;
            }
            int number = 0;
            for (int at = place; at < end; at++) {
                number = number * 10 + bytes[at] - '0';
            }
            step(number);
            pieces++;
            goOn();
            return true;
        }

        private boolean readName() {
            int name = names().indexOf((char) bytes[place]);
            if (needsBlank || end - place != 1 || name < 0) {
                return false;
            }
            step(Text.FIRST_NAME - name);
            pieces++;
            goOn();
            return true;
        }

        private boolean readNot() {
            if (nots >= DEEPEST) {
                return false;
            }
            nots++;
            goOn();
            boolean goes = readPiece();
            nots--;
            step(-'!');
            return goes;
        }

        private boolean readBracket() {
            if (brackets >= DEEPEST) {
                return false;
            }
            brackets++;
            goOn();
            boolean goes = readEither() && isSign(')');
            brackets--;
            if (goes) {
                goOn();
            }
            return goes;
        }
    }

    /** A row of places; a place of floats that is NO NUMBER holds NONE, which no float of a row can be. */
    private static final class Sheet {
        final int[] places = new int[MOST_PLACES];
        int sort = MISSING;
        int length = 0;

        boolean isMissing() {
            return sort == MISSING;
        }

        boolean hasPlace(int place) {
            return place >= 0 && place < length;
        }

        boolean hasPlaces(int place, int many) {
            return place >= 0 && many >= 0 && place <= length && many <= length - place;
        }

        boolean hasNumber(int place) {
            return hasPlace(place) && places[place] != NONE;
        }

        void clear(int newSort, int newLength) {
            sort = newSort;
            length = newLength;
            for (int i = 0; i < MOST_PLACES; i++) {
                places[i] = 0;
            }
        }

        void become(Sheet other) {
            sort = other.sort;
            length = other.length;
            System.arraycopy(other.places, 0, places, 0, MOST_PLACES);
        }
    }

    /** Only the field of what it holds tells anything. */
    private static final class Slot {
        int thing = HOLDS_NOTHING;
        int kind = ASKER;
        int first = 0;
        int number = 0;
        final Sheet sheet = new Sheet();
    }
}
