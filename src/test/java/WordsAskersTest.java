/** Promises 1 to 12: words, askers. */
public final class WordsAskersTest {
    private static final Due due = new Due("WordsAskersTest");

    public static void main(String[] args) {
        newObject();
        words();
        wordsAreFull();
        wordsThatFit();
        weights();
        askers();
        scores();
        scoresWithoutHidden();
        worths();
        kinds();
        nexts();
        deals();
        due.end();
    }

    private static void newObject() {
        HangedWord x = new HangedWord();
        int[] counts = {0, 0, 0, 0, 6, 0, 0, 0, 1};
        for (int what = 0; what < counts.length; what++) {
            due.is(1, "count(" + what + ") of a new object", x.count(what), counts[what]);
        }
        due.is(1, "game(0)", x.game(0), Due.NONE);
        for (int what = 1; what <= 6; what++) {
            due.is(1, "game(" + what + ")", x.game(what), 0);
        }
        for (int key = 0; key < 3; key++) {
            due.is(1, "why", x.why(key), Due.NONE);
        }
        for (int sheet = 0; sheet < 4; sheet++) {
            due.is(1, "a sheet is missing", x.mark(sheet, 0, 0), Due.NOTHING);
        }
        for (int slot = 0; slot < 5; slot++) {
            due.is(1, "a slot holds nothing", x.item(slot, 0), Due.NOTHING);
        }
        due.is(1, "no image", x.back(), Due.NO);
        due.is(1, "no word", x.wordTold(0, 0), Due.BAD);
        due.is(1, "no asker", x.told(0, 0), Due.BAD);
    }

    private static void words() {
        HangedWord x = new HangedWord();
        due.is(2, "word(0, 1)", x.word(0, 1), 0);
        due.is(2, "word(1295, 99)", x.word(1295, 99), 1);
        due.is(2, "a word alike", x.word(1295, 98), 2);
        due.is(2, "word(-1, 1)", x.word(-1, 1), Due.BAD);
        due.is(2, "word(1296, 1)", x.word(1296, 1), Due.BAD);
        due.is(2, "word(5, 0)", x.word(5, 0), Due.BAD);
        due.is(2, "word(5, 100)", x.word(5, 100), Due.BAD);
        due.is(2, "word(MIN, MAX)", x.word(Due.MIN, Due.MAX), Due.BAD);
        due.is(2, "refused words", x.count(0), 3);
        x.word(Due.row(4, 0, 5, 4), 7);
        due.is(3, "LETTERS as a number", x.wordTold(3, 0), 4 * 216 + 30 + 4);
        due.is(3, "WEIGHT", x.wordTold(3, 1), 7);
        due.is(3, "LETTERS as a set", x.wordTold(3, 2), 1 | 16 | 32);
        due.is(3, "LETTERS of 0", x.wordTold(0, 2), 1);
        due.is(3, "LETTERS of 1295", x.wordTold(1, 2), 32);
        due.is(3, "none fits", x.wordTold(3, 3), 0);
        due.is(3, "what 4", x.wordTold(3, 4), Due.BAD);
        due.is(3, "what -1", x.wordTold(3, -1), Due.BAD);
        due.is(3, "word 4", x.wordTold(4, 0), Due.BAD);
        due.is(3, "word -1", x.wordTold(-1, 0), Due.BAD);
        due.is(3, "word MIN", x.wordTold(Due.MIN, 0), Due.BAD);
    }

    private static void wordsAreFull() {
        HangedWord x = new HangedWord();
        for (int i = 0; i < 12; i++) {
            due.is(2, "word " + i, x.word(i, 1 + i), i);
        }
        due.is(2, "the 13th", x.word(0, 1), Due.FULL);
        due.is(2, "the 13th, wrong", x.word(1296, 1), Due.BAD);
        due.is(2, "the 13th, wrong", x.word(0, 0), Due.BAD);
        due.is(2, "words then", x.count(0), 12);
        due.is(3, "the last", x.wordTold(11, 0), 11);
        due.is(3, "its weight", x.wordTold(11, 1), 12);
    }

    private static void wordsThatFit() {
        HangedWord x = new HangedWord();
        x.word(Due.row(0, 1, 2, 3), 1);
        x.word(Due.row(0, 1, 2, 4), 1);
        x.word(Due.row(0, 0, 2, 3), 1);
        x.word(Due.row(1, 0, 2, 3), 1);
        x.hide(0);
        x.asks(0);
        int[] first = {1, 1, 0, 0};
        int[] second = {1, 0, 0, 0};
        for (int word = 0; word < 4; word++) {
            due.is(3, "fits behind 0: " + word, x.wordTold(word, 3), first[word]);
        }
        x.asks(4);
        for (int word = 0; word < 4; word++) {
            due.is(3, "fits behind 4: " + word, x.wordTold(word, 3), second[word]);
        }
        due.is(2, "a word that comes in a game", x.word(Due.row(0, 5, 5, 5), 1), 4);
        due.is(3, "it fits", x.wordTold(4, 3), 1);
    }

    private static void weights() {
        HangedWord x = new HangedWord();
        x.word(7, 5);
        due.is(4, "weigh(0, 99)", x.weigh(0, 99), 5);
        due.is(4, "weigh(0, 1)", x.weigh(0, 1), 99);
        due.is(4, "weigh(0, 0)", x.weigh(0, 0), Due.BAD);
        due.is(4, "weigh(0, 100)", x.weigh(0, 100), Due.BAD);
        due.is(4, "weigh(1, 5)", x.weigh(1, 5), Due.BAD);
        due.is(4, "weigh(-1, 5)", x.weigh(-1, 5), Due.BAD);
        due.is(4, "the weight", x.wordTold(0, 1), 1);
    }

    private static void askers() {
        HangedWord x = new HangedWord();
        due.is(5, "asker(6, 0)", x.asker(6, 0), Due.BAD);
        due.is(5, "asker(-1, 0)", x.asker(-1, 0), Due.BAD);
        due.is(5, "asker(0, -1)", x.asker(0, -1), Due.BAD);
        due.is(5, "asker(0, 6)", x.asker(0, 6), Due.BAD);
        for (int i = 0; i < 8; i++) {
            due.is(5, "asker " + i, x.asker(i % 6, (i + 2) % 6), i);
        }
        due.is(5, "the ninth", x.asker(0, 0), Due.FULL);
        due.is(5, "the ninth, wrong", x.asker(0, 6), Due.BAD);
        for (int i = 0; i < 8; i++) {
            due.is(6, "KIND of " + i, x.told(i, 0), i % 6);
            due.is(6, "FIRST of " + i, x.told(i, 1), (i + 2) % 6);
        }
        due.is(6, "told(8, 0)", x.told(8, 0), Due.BAD);
        due.is(6, "told(-1, 0)", x.told(-1, 0), Due.BAD);
        due.is(6, "told(0, 4)", x.told(0, 4), Due.BAD);
        due.is(6, "told(0, -1)", x.told(0, -1), Due.BAD);
        due.is(10, "first(3, 1)", x.first(3, 1), 5);
        due.is(10, "first(3, 0)", x.first(3, 0), 1);
        due.is(10, "FIRST", x.told(3, 1), 0);
        due.is(10, "first(3, 6)", x.first(3, 6), Due.BAD);
        due.is(10, "first(3, -1)", x.first(3, -1), Due.BAD);
        due.is(10, "first(8, 0)", x.first(8, 0), Due.BAD);
        due.is(10, "first(-1, 0)", x.first(-1, 0), Due.BAD);
    }

    /** Words 0: LETTERS 0 0 1 2, 10; 1: 0 1 1 3, 20; 2: 4 4 4 5, 3. */
    private static HangedWord three() {
        HangedWord x = new HangedWord();
        x.word(Due.row(0, 0, 1, 2), 10);
        x.word(Due.row(0, 1, 1, 3), 20);
        x.word(Due.row(4, 4, 4, 5), 3);
        for (int kind = 0; kind < 6; kind++) {
            x.asker(kind, 1);
        }
        return x;
    }

    private static void scores() {
        HangedWord x = three();
        x.hide(0);
        int[][] all = {
            {0, 100, 0, 0, 0, 0},
            {30, 31, 10, 20, 3, 3},
            {30, 30, 10, 20, 3, 3},
            {2030, 2031, 1010, 1020, 1003, 1003},
            {4980, 4980, 4977, 4980, 4970, 4970},
            {9999, 9899, 9999, 9999, 9999, 9999},
        };
        sameScores(x, all, 0);
        // With 2 ASKED word 0 alone fits: FREQUENT still counts all words.
        x.asks(2);
        int[][] behind = {
            {0, 100, 0, 0, 0, 0},
            {30, 31, 0, 20, 3, 3},
            {10, 10, 0, 0, 0, 0},
            {1030, 1031, 0, 20, 3, 3},
            {4990, 4990, 0, 4990, 4990, 4990},
            {9999, 9899, 0, 9999, 9999, 9999},
        };
        sameScores(x, behind, 4);
        due.is(7, "an ASKED letter", x.score(0, 2), Due.BAD);
        due.is(7, "score(0, 6)", x.score(0, 6), Due.BAD);
        due.is(7, "score(0, -1)", x.score(0, -1), Due.BAD);
        due.is(7, "score(6, 0)", x.score(6, 0), Due.BAD);
        due.is(7, "score(-1, 0)", x.score(-1, 0), Due.BAD);
        // Words 0 and 1 have 0 at the same place, so that they are one class of it.
        HangedWord y = new HangedWord();
        y.word(Due.row(0, 1, 1, 1), 9);
        y.word(Due.row(0, 2, 1, 2), 8);
        y.word(Due.row(1, 0, 1, 1), 7);
        y.asker(4, 0);
        y.hide(0);
        due.is(7, "PARTING of two classes", y.score(0, 0), 5000 - 17);
        due.is(7, "PARTING of three classes", y.score(0, 1), 5000 - 9);
        due.is(7, "PARTING with none", y.score(0, 3), 5000 - 24);
    }

    private static void sameScores(HangedWord x, int[][] scores, int asked) {
        for (int kind = 0; kind < 6; kind++) {
            for (int letter = 0; letter < 6; letter++) {
                if ((asked >> letter & 1) == 0) {
                    due.is(7, "score(" + kind + ", " + letter + ")", x.score(kind, letter), scores[kind][letter]);
                }
            }
        }
    }

    private static void scoresWithoutHidden() {
        HangedWord x = three();
        int[] scores = {100, 31, 0, 31, 5000, 9899};
        for (int kind = 0; kind < 6; kind++) {
            due.is(7, "without HIDDEN, kind " + kind, x.score(kind, 1), scores[kind]);
            due.is(6, "NEXT without HIDDEN", x.told(kind, 2), Due.NONE);
        }
    }

    private static void worths() {
        HangedWord x = new HangedWord();
        x.asker(0, 3);
        int[][] worths = {{0, 5}, {10, 15}, {50, 45}, {20, 30}, {44, 39}, {1, 1}};
        for (int kind = 0; kind < 6; kind++) {
            x.turns(0, kind);
            x.first(0, 0);
            due.is(6, "WORTH of kind " + kind + " with 0", x.told(0, 3), worths[kind][0]);
            x.first(0, 5);
            due.is(6, "WORTH of kind " + kind + " with 5", x.told(0, 3), worths[kind][1]);
        }
    }

    private static void kinds() {
        HangedWord x = new HangedWord();
        x.asker(0, 4);
        // Which kinds each of the kinds is: itself, and those above it.
        int[] above = {1, 1 | 2, 1 | 4, 1 | 2 | 8, 1 | 4 | 16, 1 | 32};
        int was = 0;
        for (int kind = 0; kind < 6; kind++) {
            due.is(9, "turns(0, " + kind + ")", x.turns(0, kind), was);
            was = kind;
            for (int as = 0; as < 6; as++) {
                due.is(8, kind + " as " + as, x.as(0, as), (above[kind] >> as & 1) == 1 ? 4 : Due.KIND);
            }
        }
        due.is(8, "as(0, 6)", x.as(0, 6), Due.BAD);
        due.is(8, "as(0, -1)", x.as(0, -1), Due.BAD);
        due.is(8, "as(1, 0)", x.as(1, 0), Due.BAD);
        due.is(8, "as(-1, 0)", x.as(-1, 0), Due.BAD);
        due.is(9, "turns(0, 6)", x.turns(0, 6), Due.BAD);
        due.is(9, "turns(0, -1)", x.turns(0, -1), Due.BAD);
        due.is(9, "turns(1, 0)", x.turns(1, 0), Due.BAD);
        due.is(9, "turns(-1, 0)", x.turns(-1, 0), Due.BAD);
        due.is(9, "to the same", x.turns(0, 5), 5);
        due.is(9, "FIRST stays", x.told(0, 1), 4);
    }

    private static void nexts() {
        HangedWord x = three();
        x.hide(0);
        int[] next = {1, 1, 0, 1, 0, 0};
        for (int kind = 0; kind < 6; kind++) {
            due.is(6, "NEXT of kind " + kind, x.told(kind, 2), next[kind]);
        }
        x.asks(1);
        int[] then = {0, 0, 0, 0, 0, 0};
        for (int kind = 0; kind < 6; kind++) {
            due.is(6, "NEXT of kind " + kind + " behind 1", x.told(kind, 2), then[kind]);
        }
        HangedWord y = new HangedWord();
        y.word(1295, 1);
        y.asker(0, 0);
        y.gallows(9);
        y.hide(0);
        for (int letter = 0; letter < 5; letter++) {
            due.is(6, "NEXT", y.told(0, 2), letter);
            y.asks(letter);
        }
        due.is(6, "the last one", y.told(0, 2), 5);
        y.asks(5);
        due.is(6, "all are ASKED", y.told(0, 2), Due.NONE);
        HangedWord had = new HangedWord();
        had.word(0, 1);
        had.asker(0, 0);
        had.hide(0);
        had.asks(0);
        due.is(6, "NEXT of a game that is HAD", had.told(0, 2), 1);
    }

    private static void deals() {
        HangedWord x = new HangedWord();
        due.is(12, "seed(-77)", x.seed(-77), 1);
        due.is(11, "deal(3)", x.deal(3), 3);
        int z = -77;
        for (int word = 0; word < 3; word++) {
            z = Due.nextZ(z);
            due.is(11, "LETTERS that are drawn", x.wordTold(word, 0), (z >>> 8) % 1296);
            z = Due.nextZ(z);
            due.is(11, "WEIGHT that is drawn", x.wordTold(word, 1), 1 + (z >>> 8) % 20);
        }
        due.is(11, "z behind it", x.count(8), z);
        due.is(11, "deal(0)", x.deal(0), Due.BAD);
        due.is(11, "deal(13)", x.deal(13), Due.BAD);
        due.is(11, "deal(-1)", x.deal(-1), Due.BAD);
        due.is(11, "z as it was", x.count(8), z);
        due.is(11, "deal(8)", x.deal(8), 8);
        x.seed(5);
        due.is(11, "room for one of 12", x.deal(12), 1);
        due.is(11, "two draws for it", x.count(8), Due.nextZ(Due.nextZ(5)));
        due.is(11, "no room", x.deal(1), 0);
        due.is(11, "no draws", x.count(8), Due.nextZ(Due.nextZ(5)));
        due.is(11, "deal(13) without room", x.deal(13), Due.BAD);
        due.is(12, "seed(MIN)", x.seed(Due.MIN), Due.nextZ(Due.nextZ(5)));
        due.is(12, "seed(MAX)", x.seed(Due.MAX), Due.MIN);
        due.is(12, "z", x.count(8), Due.MAX);
        // The numbers that everybody knows of this draw, from 1 on.
        HangedWord y = new HangedWord();
        y.deal(1);
        due.is(11, "LETTERS from z 1", y.wordTold(0, 0), (1103527590 / 256) % 1296);
        due.is(11, "WEIGHT from z 1", y.wordTold(0, 1), 1 + (int) (2524885223L / 256 % 20));
        due.is(12, "z from 1", y.count(8), (int) 2524885223L);
    }
}
