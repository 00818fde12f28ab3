/** Promises 42 to 46: rows, images. */
public final class RowsImagesTest {
    private static final Due due = new Due("RowsImagesTest");

    public static void main(String[] args) {
        tells();
        checks();
        checksByTheImage();
        checksRefused();
        checksWithoutHidden();
        keepsAndBack();
        keepsNot();
        keepsTexts();
        counts();
        due.end();
    }

    private static void tells() {
        HangedWord x = new HangedWord();
        for (int i = 1; i <= 60; i++) {
            due.is(42, "tell " + i, x.tell(-i), i);
        }
        due.is(42, "60 wait", x.tell(0), Due.FULL);
        due.is(42, "count(6)", x.count(6), 60);
        x.check(0, 0);
        due.is(42, "none wait", x.tell(5), 1);
    }

    /** One word of no lines, one of 5: by z they come by turns that the test draws by itself. */
    private static HangedWord two(int z) {
        HangedWord x = new HangedWord();
        x.word(0, 1);
        x.word(1295, 1);
        x.asker(0, 0);
        x.asker(0, 5);
        x.seed(z);
        return x;
    }

    private static int[] games(int z, int asker, int n, int gallows) {
        int[] told = new int[2 * n];
        int at = z;
        for (int i = 0; i < n; i++) {
            at = Due.nextZ(at);
            int word = (at >>> 8) % 2;
            told[2 * i] = word;
            told[2 * i + 1] = Math.min(gallows, asker == 0 ? (word == 0 ? 0 : 5) : (word == 0 ? 1 : 0));
        }
        return told;
    }

    private static void tellAll(HangedWord x, int[] told, int many) {
        for (int i = 0; i < many; i++) {
            x.tell(told[i]);
        }
    }

    private static void checks() {
        HangedWord x = two(4711);
        x.keep();
        for (int asker = 0; asker < 2; asker++) {
            for (int n = 1; n <= 20; n++) {
                int[] told = games(4711, asker, n, 6);
                tellAll(x, told, 2 * n);
                due.is(43, "all are told", x.check(asker, n), 0);
                due.is(43, "none waits", x.count(6), 0);
            }
        }
        int[] told = games(4711, 0, 20, 6);
        for (int wrong = 0; wrong < 40; wrong++) {
            told[wrong] += 1;
            tellAll(x, told, 40);
            due.is(43, "wrong at " + wrong, x.check(0, 20), 1 + wrong);
            told[wrong] -= 1;
            tellAll(x, told, 40);
            due.is(43, "none is wrong", x.check(0, 20), 0);
            tellAll(x, told, wrong);
            due.is(43, "missing at " + wrong, x.check(0, 20), 1 + wrong);
        }
        tellAll(x, told, 40);
        x.tell(0);
        due.is(43, "one too many", x.check(0, 20), 41);
        tellAll(x, told, 4);
        due.is(43, "two too many", x.check(0, 1), 3);
        due.is(43, "nothing waits", x.check(0, 1), 1);
        due.is(43, "nothing has changed", x.count(8), 4711);
    }

    private static void checksByTheImage() {
        HangedWord x = two(99);
        x.gallows(3);
        x.keep();
        x.weigh(0, 50);
        x.seed(1);
        x.first(0, 3);
        x.turns(1, 4);
        x.gallows(9);
        x.word(7, 80);
        Due.text(x, "draw n");
        for (int asker = 0; asker < 2; asker++) {
            int[] told = games(99, asker, 12, 3);
            tellAll(x, told, 24);
            due.is(43, "by THE IMAGE", x.check(asker, 12), 0);
        }
        due.is(43, "z", x.count(8), 1);
        due.is(43, "GALLOWS", x.count(4), 9);
        due.is(43, "no HIDDEN", x.game(0), Due.NONE);
        due.is(45, "the image is as it was", x.back(), 2);
        due.is(45, "z", x.count(8), 99);
    }

    private static void checksRefused() {
        HangedWord x = two(1);
        int[][] wrong = {{0, 0}, {0, 21}, {0, -1}, {-1, 1}, {8, 1}, {9, 0}, {Due.MIN, Due.MAX}};
        for (int[] w : wrong) {
            x.tell(1);
            due.is(43, "check(" + w[0] + ", " + w[1] + ")", x.check(w[0], w[1]), Due.BAD);
            due.is(43, "none waits", x.count(6), 0);
        }
        x.tell(1);
        due.is(43, "no IMAGE", x.check(0, 1), Due.NO);
        due.is(43, "none waits", x.count(6), 0);
        due.is(43, "no IMAGE, wrong", x.check(0, 0), Due.BAD);
        x.keep();
        x.asker(0, 0);
        x.tell(1);
        due.is(43, "not in THE IMAGE", x.check(2, 1), Due.NO);
        due.is(43, "none waits", x.count(6), 0);
        due.is(43, "ASKER 7", x.check(7, 20), Due.NO);
        due.is(43, "ASKER 7, n 21", x.check(7, 21), Due.BAD);
    }

    private static void checksWithoutHidden() {
        HangedWord x = two(5);
        x.hide(1);
        x.asks(0);
        Due.text(x, "draw 0");
        x.keep();
        for (int i = 0; i < 3; i++) {
            x.tell(-1);
            x.tell(0);
        }
        due.is(43, "none is HIDDEN", x.check(0, 3), 0);
        x.tell(-1);
        x.tell(1);
        due.is(43, "LINES are 0", x.check(0, 1), 2);
    }

    private static void keepsAndBack() {
        HangedWord x = two(31);
        due.is(45, "no IMAGE", x.back(), Due.NO);
        x.hide(1);
        x.asks(2);
        x.gallows(4);
        due.is(44, "keep()", x.keep(), 2);
        for (int turn = 0; turn < 3; turn++) {
            x.asks(3);
            x.asks(5);
            x.word(3, 3);
            x.weigh(0, 77);
            x.asker(3, 3);
            x.turns(0, 2);
            x.first(1, 4);
            x.gallows(8);
            x.choose();
            due.is(45, "back()", x.back(), 2);
            due.is(45, "WORDS", x.count(0), 2);
            due.is(45, "ASKERS", x.count(1), 2);
            due.is(45, "HIDDEN", x.game(0), 1);
            due.is(45, "ASKED", x.game(1), 4);
            due.is(45, "LINES", x.game(2), 1);
            due.is(45, "GALLOWS", x.count(4), 4);
            due.is(45, "z", x.count(8), 31);
            due.is(45, "WEIGHT", x.wordTold(0, 1), 1);
            due.is(45, "KIND", x.told(0, 0), 0);
            due.is(45, "FIRST", x.told(1, 1), 5);
            due.is(45, "the next WORD", x.word(9, 9), 2);
            due.is(45, "it is another one", x.wordTold(2, 2), 1 | 2 | 8);
        }
        due.is(44, "keep() again", x.keep(), 3);
        x.word(10, 10);
        due.is(45, "back() to it", x.back(), 3);
        due.is(45, "the word", x.wordTold(2, 0), 9);
    }

    private static void keepsNot() {
        HangedWord x = two(1);
        x.sheet(0, 0, 2);
        x.mark(0, 1, 8);
        x.lay(0, 3, 10);
        x.tell(1);
        x.feed(1, 2, 3);
        x.keep();
        due.is(44, "numbers wait on", x.count(6), 1);
        x.mark(0, 1, 9);
        x.lay(0, 3, 11);
        x.tell(1);
        x.feed(1, 2, 3);
        x.back();
        due.is(45, "numbers that wait", x.count(6), 2);
        due.is(45, "THE TAPE", x.count(7), 24);
        due.is(45, "SLOTS", x.rest(0, 100), 11);
        x.lay(1, 2, 0);
        due.is(45, "SHEETS", x.item(1, 1), 9);
    }

    private static void keepsTexts() {
        HangedWord x = new HangedWord();
        Due.text(x, "fine 1");
        Due.text(x, "ask 5");
        x.keep();
        due.is(44, "a new one", Due.text(x, "fine 2"), 2);
        due.is(45, "back()", x.back(), 0);
        due.is(45, "TEXTS", x.count(5), 2);
        due.is(45, "why(2)", x.why(2), 0);
        due.is(45, "fine()", x.fine(), 1);
        due.is(45, "another new one", Due.text(x, "draw 3+3"), 2);
        due.is(45, "its KEY", x.textTold(2, 0), 1);
        due.is(45, "why(2)", x.why(2), 0);
        x.back();
        due.is(45, "why(1)", x.why(1), Due.NONE);
        due.is(45, "why(0)", x.why(0), 1);
    }

    private static void counts() {
        HangedWord x = two(6);
        x.word(51, 5);
        x.hide(0);
        x.asks(1);
        x.asks(0);
        x.gallows(7);
        Due.text(x, "fine 1");
        x.tell(4);
        x.tell(4);
        x.tell(4);
        x.feed(0, 0, 0);
        x.trim(5);
        int[] counts = {3, 2, 2, 1, 7, 1, 3, 5, 6};
        for (int what = 0; what < counts.length; what++) {
            due.is(46, "count(" + what + ")", x.count(what), counts[what]);
        }
        due.is(46, "count(9)", x.count(9), Due.BAD);
        due.is(46, "count(-1)", x.count(-1), Due.BAD);
    }
}
