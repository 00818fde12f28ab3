/** Promises 19 to 27: what will be. */
public final class AheadTest {
    private static final Due due = new Due("AheadTest");

    public static void main(String[] args) {
        linesAndWorst();
        linesByWhatFits();
        even();
        open();
        openByWhatFits();
        best();
        sure();
        behind();
        behindWithoutHidden();
        askedBy();
        fine();
        nothingChanges();
        due.end();
    }

    /** Asker 0: ASKER with FIRST 5; asker 1: FREQUENT with FIRST 0. */
    private static HangedWord three() {
        HangedWord x = new HangedWord();
        x.word(Due.row(0, 0, 1, 2), 10);
        x.word(Due.row(0, 1, 1, 3), 20);
        x.word(Due.row(4, 4, 4, 5), 3);
        x.asker(0, 5);
        x.asker(1, 0);
        return x;
    }

    private static void linesAndWorst() {
        HangedWord x = three();
        x.gallows(1);
        int[][] lines = {{1, 2, 4}, {1, 0, 4}};
        for (int asker = 0; asker < 2; asker++) {
            for (int word = 0; word < 3; word++) {
                due.is(19, "lines(" + word + ", " + asker + ")", x.lines(word, asker), lines[asker][word]);
            }
        }
        due.is(19, "lines(3, 0)", x.lines(3, 0), Due.BAD);
        due.is(19, "lines(-1, 0)", x.lines(-1, 0), Due.BAD);
        due.is(19, "lines(0, 2)", x.lines(0, 2), Due.BAD);
        due.is(19, "lines(0, -1)", x.lines(0, -1), Due.BAD);
        due.is(20, "worst(0, 0)", x.worst(0, 0), 2);
        due.is(20, "worst(0, 1)", x.worst(0, 1), 4);
        due.is(20, "worst(2, 0)", x.worst(2, 0), Due.BAD);
        due.is(20, "worst(-1, 0)", x.worst(-1, 0), Due.BAD);
        due.is(20, "worst(0, 2)", x.worst(0, 2), Due.BAD);
        due.is(20, "worst(0, -1)", x.worst(0, -1), Due.BAD);
        x.word(Due.row(5, 4, 5, 4), 1);
        due.is(20, "of several the least", x.worst(0, 0), 2);
        HangedWord y = new HangedWord();
        y.asker(0, 0);
        due.is(20, "no WORDS", y.worst(0, 0), Due.NONE);
        due.is(20, "no WORDS", y.worst(0, 1), Due.NONE);
        due.is(20, "no WORDS, wrong", y.worst(0, 2), Due.BAD);
        y.word(0, 1);
        due.is(20, "a word without lines", y.worst(0, 0), 0);
        due.is(20, "no lines", y.worst(0, 1), 0);
    }

    /** FITTING: 0 first (30 of 33); behind it, at no place, word 2 alone fits: 4 and 5 come next. */
    private static void linesByWhatFits() {
        HangedWord x = three();
        x.turns(0, 2);
        due.is(19, "FITTING, word 0", x.lines(0, 0), 0);
        due.is(19, "FITTING, word 1", x.lines(1, 0), 0);
        due.is(19, "FITTING, word 2", x.lines(2, 0), 1);
        x.hide(1);
        x.asks(5);
        due.is(19, "the game doesn't matter", x.lines(2, 0), 1);
        due.is(20, "nor for the worst", x.worst(0, 0), 2);
    }

    private static void even() {
        HangedWord x = three();
        due.is(21, "even(0)", x.even(0), 3);
        due.is(21, "even(1)", x.even(1), 1);
        due.is(21, "even(2)", x.even(2), Due.BAD);
        due.is(21, "even(-1)", x.even(-1), Due.BAD);
        HangedWord y = new HangedWord();
        y.asker(0, 0);
        due.is(21, "no WORDS: no more than half", y.even(0), 1);
        y.word(0, 5);
        y.word(1295, 5);
        due.is(21, "just half", y.even(0), 1);
        y.weigh(1, 6);
        due.is(21, "more than half, 5 LINES", y.even(0), 6);
        y.gallows(2);
        due.is(21, "GALLOWS don't matter", y.even(0), 6);
        y.weigh(0, 6);
        due.is(21, "half again", y.even(0), 1);
    }

    private static void open() {
        HangedWord x = three();
        due.is(22, "open(0)", x.open(0), 2);
        x.gallows(1);
        due.is(22, "till LINES are GALLOWS", x.open(0), 1);
        due.is(22, "open(2)", x.open(2), Due.BAD);
        due.is(22, "open(-1)", x.open(-1), Due.BAD);
        HangedWord none = new HangedWord();
        none.asker(0, 0);
        due.is(22, "no WORDS", none.open(0), 0);
        HangedWord y = new HangedWord();
        y.asker(0, 0);
        y.word(Due.row(0, 1, 1, 1), 5);
        y.word(Due.row(2, 0, 2, 2), 5);
        due.is(22, "of several the least set", y.open(0), 0);
        y.weigh(1, 6);
        due.is(22, "the greater sum", y.open(0), 1);
        HangedWord z = new HangedWord();
        z.asker(0, 0);
        z.word(0, 5);
        z.word(Due.row(1, 1, 1, 1), 5);
        due.is(22, "of several the one of no places", z.open(0), 1);
        z.weigh(0, 6);
        due.is(22, "the greater sum", z.open(0), 0);
        z.hide(1);
        z.asks(0);
        due.is(22, "from an empty ASKED on", z.open(0), 0);
    }

    /** SCORES are by those that FIT so: behind a class that is kept the next letter is another one. */
    private static void openByWhatFits() {
        HangedWord x = new HangedWord();
        x.asker(2, 0);
        x.word(Due.row(0, 1, 1, 1), 4);
        x.word(Due.row(0, 2, 2, 2), 3);
        x.word(Due.row(3, 0, 0, 0), 3);
        x.word(Due.row(4, 4, 4, 4), 9);
        // 0 has 10, 4 has 9: 0, none (9); then 4 at all places.
        due.is(22, "FITTING", x.open(0), 1);
        x.weigh(3, 6);
        // 0: at the first place (7); 1 has 4: at three places (4); no line.
        due.is(22, "FITTING, another class", x.open(0), 0);
    }

    private static void best() {
        HangedWord x = new HangedWord();
        due.is(23, "no WORDS", x.best(0), 0);
        due.is(23, "no WORDS", x.best(1), Due.NONE);
        due.is(23, "best(2)", x.best(2), Due.BAD);
        due.is(23, "best(-1)", x.best(-1), Due.BAD);
        x.word(Due.row(0, 0, 0, 1), 1);
        x.word(Due.row(0, 0, 0, 2), 1);
        x.word(Due.row(0, 0, 0, 3), 99);
        due.is(23, "none FITS", x.best(0), 0);
        due.is(23, "none FITS", x.best(1), Due.NONE);
        x.hide(2);
        due.is(23, "two of three miss", x.best(0), 2);
        due.is(23, "the least of all that do", x.best(1), 0);
        x.asks(0);
        due.is(23, "0 told nothing", x.best(0), 2);
        due.is(23, "the next one", x.best(1), 1);
        x.asks(1);
        due.is(23, "LINES that are there don't count", x.best(0), 1);
        due.is(23, "2", x.best(1), 2);
        x.asks(2);
        due.is(23, "one is left", x.best(0), 0);
        due.is(23, "3", x.best(1), 3);
        x.asks(3);
        due.is(23, "it is HAD", x.best(0), 0);
        due.is(23, "nothing to ask", x.best(1), Due.NONE);
        x.gallows(1);
        x.hide(2);
        x.asks(5);
        due.is(23, "HUNG, but it could be", x.best(0), 2);
        due.is(23, "by", x.best(1), 0);
        Due.text(x, "draw 0");
        x.choose();
        due.is(23, "none is HIDDEN any more", x.best(0), 0);
        due.is(23, "so there is no LETTER", x.best(1), Due.NONE);
        bestByPlaces();
    }

    /** 1 parts all three by its places; 0 would leave two of them together, of which one more line is to come. */
    private static void bestByPlaces() {
        HangedWord x = new HangedWord();
        x.word(Due.row(0, 1, 2, 2), 1);
        x.word(Due.row(0, 3, 1, 3), 1);
        x.word(Due.row(4, 4, 4, 1), 1);
        x.hide(0);
        due.is(23, "all are parted by 1", x.best(0), 0);
        due.is(23, "1", x.best(1), 1);
        x.word(Due.row(5, 5, 5, 5), 1);
        due.is(23, "one that has none of them", x.best(0), 1);
        due.is(23, "1 parts all; behind 0 one of two would cost a line more", x.best(1), 1);
        x.asks(5);
        due.is(23, "it is out", x.best(0), 0);
    }

    private static void sure() {
        HangedWord x = new HangedWord();
        due.is(24, "no WORDS", x.sure(), 0);
        x.word(Due.row(0, 1, 2, 3), 1);
        x.word(Due.row(0, 1, 4, 4), 1);
        x.word(Due.row(1, 0, 5, 5), 1);
        due.is(24, "none FITS", x.sure(), 0);
        x.hide(1);
        due.is(24, "0 and 1", x.sure(), 3);
        x.asks(0);
        due.is(24, "1", x.sure(), 2);
        x.asks(2);
        due.is(24, "all of the one that is left", x.sure(), 2 | 16);
        x.asks(1);
        x.asks(4);
        due.is(24, "HAD", x.sure(), 0);
    }

    private static void behind() {
        HangedWord x = three();
        x.seed(2024);
        x.gallows(2);
        x.hide(2);
        x.asks(0);
        x.keep();
        for (int asker = 0; asker < 2; asker++) {
            for (int n = 1; n <= 30; n++) {
                int hung = 0;
                int lines = 0;
                for (int i = 0; i < n; i++) {
                    x.choose();
                    lines += x.play(asker);
                    hung += x.game(5);
                }
                x.back();
                due.is(25, "behind(" + asker + ", " + n + ", 0)", x.behind(asker, n, 0), hung);
                due.is(25, "behind(" + asker + ", " + n + ", 1)", x.behind(asker, n, 1), lines);
            }
        }
        due.is(25, "behind(2, 1, 0)", x.behind(2, 1, 0), Due.BAD);
        due.is(25, "behind(-1, 1, 0)", x.behind(-1, 1, 0), Due.BAD);
        due.is(25, "behind(0, 0, 0)", x.behind(0, 0, 0), Due.BAD);
        due.is(25, "behind(0, 31, 0)", x.behind(0, 31, 0), Due.BAD);
        due.is(25, "behind(0, 1, 2)", x.behind(0, 1, 2), Due.BAD);
        due.is(25, "behind(0, 1, -1)", x.behind(0, 1, -1), Due.BAD);
    }

    private static void behindWithoutHidden() {
        HangedWord x = new HangedWord();
        x.asker(0, 0);
        due.is(25, "no WORDS", x.behind(0, 30, 0), 0);
        due.is(25, "no WORDS", x.behind(0, 30, 1), 0);
        x.word(1295, 1);
        due.is(25, "5 LINES each", x.behind(0, 30, 1), 150);
        x.gallows(5);
        due.is(25, "all HUNG", x.behind(0, 7, 0), 7);
        Due.text(x, "draw 0");
        due.is(25, "none times", x.behind(0, 7, 0), 0);
        due.is(25, "none times", x.behind(0, 7, 1), 0);
    }

    private static void askedBy() {
        HangedWord x = new HangedWord();
        x.word(Due.row(1, 1, 2, 2), 1);
        due.is(26, "askedBy(4, 0)", x.askedBy(4, 0), Due.BAD);
        due.is(26, "askedBy(-1, 0)", x.askedBy(-1, 0), Due.BAD);
        due.is(26, "askedBy(0, 2)", x.askedBy(0, 2), Due.BAD);
        due.is(26, "askedBy(0, -1)", x.askedBy(0, -1), Due.BAD);
        due.is(26, "MISSING", x.askedBy(0, 0), Due.NOTHING);
        x.sheet(0, 0, 5);
        due.is(26, "no HIDDEN", x.askedBy(0, 0), Due.NO);
        x.hide(0);
        due.is(26, "no ASKERS", x.askedBy(0, 0), Due.NONE);
        due.is(26, "no ASKERS", x.askedBy(0, 1), Due.NONE);
        x.asker(0, 0);
        x.asker(0, 3);
        x.asker(0, 2);
        x.asker(0, 2);
        // NEXT of 0: 0 1 2; of 1: 3 0 1 2; of 2 and 3: 2 0 1.
        marks(x, 0, 3, 0, 1, 2, 0);
        due.is(26, "asker 1", x.askedBy(0, 0), 1);
        due.is(26, "the fifth place: it is HAD", x.askedBy(0, 1), 1);
        marks(x, 0, 2, 0, 1, 9, 9);
        due.is(26, "of several the least", x.askedBy(0, 0), 2);
        due.is(26, "two places behind", x.askedBy(0, 1), 2);
        marks(x, 0, -1, -1, -1, -1, -1);
        due.is(26, "all are others", x.askedBy(0, 0), 0);
        due.is(26, "five", x.askedBy(0, 1), 5);
        x.sheet(1, 1, 24);
        for (int place = 0; place < 24; place++) {
            x.mark(1, place, Due.NONE);
        }
        due.is(26, "no numbers", x.askedBy(1, 0), 0);
        due.is(26, "none", x.askedBy(1, 1), 0);
        x.mark(1, 0, 3);
        x.mark(1, 23, -1);
        x.gallows(1);
        x.asks(0);
        due.is(26, "from an empty ASKED on, without GALLOWS", x.askedBy(1, 0), 1);
        due.is(26, "the last place", x.askedBy(1, 1), 1);
        x.sheet(2, 0, 0);
        due.is(26, "no places", x.askedBy(2, 1), 0);
    }

    private static void marks(HangedWord x, int sheet, int a, int b, int c, int d, int e) {
        int[] all = {a, b, c, d, e};
        for (int place = 0; place < all.length; place++) {
            x.mark(sheet, place, all[place]);
        }
    }

    private static void fine() {
        HangedWord x = three();
        due.is(27, "no lines", x.fine(), 0);
        x.hide(0);
        x.asks(5);
        x.asks(0);
        x.asks(4);
        due.is(27, "LINES", x.fine(), 2);
        Due.text(x, "fine l * 10 + k");
        due.is(27, "by a TEXT", x.fine(), 23);
        Due.text(x, "fine 0 - 9999 * k");
        due.is(27, "it is not held", x.fine(), -29997);
        x.hide(0);
        due.is(27, "of another game", x.fine(), 0);
    }

    private static void nothingChanges() {
        HangedWord x = three();
        x.hide(1);
        x.asks(5);
        x.asks(1);
        x.sheet(0, 0, 3);
        x.lines(0, 0);
        x.worst(0, 0);
        x.even(0);
        x.open(0);
        x.best(0);
        x.sure();
        x.behind(0, 9, 0);
        x.askedBy(0, 0);
        x.fine();
        due.is(25, "HIDDEN", x.game(0), 1);
        due.is(25, "ASKED", x.game(1), 34);
        due.is(25, "LINES", x.game(2), 1);
        due.is(25, "WORDS that FIT", x.game(6), 2);
        due.is(25, "z", x.count(8), 1);
        due.is(25, "GALLOWS", x.count(4), 6);
        due.is(25, "no image", x.back(), Due.NO);
    }
}
