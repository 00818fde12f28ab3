/** Promises 13 to 18: a game. */
public final class GameTest {
    private static final Due due = new Due("GameTest");

    public static void main(String[] args) {
        hides();
        asksAtPlaces();
        isHad();
        isHung();
        plays();
        chooses();
        choosesByText();
        gallows();
        games();
        due.end();
    }

    private static HangedWord three() {
        HangedWord x = new HangedWord();
        x.word(Due.row(0, 0, 1, 2), 10);
        x.word(Due.row(0, 1, 1, 3), 20);
        x.word(Due.row(4, 4, 4, 5), 3);
        return x;
    }

    private static void hides() {
        HangedWord x = three();
        due.is(13, "hide(3)", x.hide(3), Due.BAD);
        due.is(13, "hide(-1)", x.hide(-1), Due.BAD);
        due.is(13, "none is hidden", x.game(0), Due.NONE);
        due.is(13, "hide(1)", x.hide(1), 3);
        due.is(13, "HIDDEN", x.game(0), 1);
        x.asks(2);
        x.asks(0);
        due.is(13, "LINES", x.game(2), 1);
        due.is(13, "hide(MAX)", x.hide(Due.MAX), Due.BAD);
        due.is(13, "ASKED stays", x.game(1), 5);
        due.is(13, "hide(2)", x.hide(2), 3);
        due.is(13, "ASKED is empty", x.game(1), 0);
        due.is(13, "LINES 0", x.game(2), 0);
    }

    private static void asksAtPlaces() {
        HangedWord x = three();
        due.is(14, "no HIDDEN", x.asks(0), Due.NO);
        due.is(14, "no HIDDEN, wrong", x.asks(6), Due.BAD);
        x.hide(0);
        due.is(14, "asks(6)", x.asks(6), Due.BAD);
        due.is(14, "asks(-1)", x.asks(-1), Due.BAD);
        due.is(14, "asks(0)", x.asks(0), 3);
        due.is(14, "asks(0) again", x.asks(0), Due.NO);
        due.is(14, "asks(3)", x.asks(3), 0);
        due.is(14, "LINES", x.game(2), 1);
        due.is(14, "asks(3) again", x.asks(3), Due.NO);
        due.is(14, "LINES stay", x.game(2), 1);
        due.is(14, "asks(1)", x.asks(1), 4);
        due.is(14, "asks(2)", x.asks(2), 8);
        x.hide(2);
        due.is(14, "asks(4)", x.asks(4), 7);
        due.is(14, "asks(5)", x.asks(5), 8);
        due.is(14, "LINES", x.game(2), 0);
    }

    private static void isHad() {
        HangedWord x = new HangedWord();
        x.word(0, 1);
        x.hide(0);
        due.is(18, "not HAD", x.game(4), 0);
        due.is(14, "asks(0)", x.asks(0), 15);
        due.is(18, "HAD", x.game(4), 1);
        due.is(18, "not HUNG", x.game(5), 0);
        due.is(14, "HAD: it can't be asked", x.asks(1), Due.NO);
        x.hide(0);
        x.asks(5);
        x.asks(4);
        x.asks(0);
        x.gallows(1);
        due.is(18, "HAD, though LINES are over GALLOWS", x.game(4), 1);
        due.is(18, "so it is not HUNG", x.game(5), 0);
    }

    private static void isHung() {
        HangedWord x = new HangedWord();
        x.word(0, 1);
        x.gallows(2);
        x.hide(0);
        x.asks(1);
        due.is(18, "one line", x.game(5), 0);
        x.asks(2);
        due.is(18, "HUNG", x.game(5), 1);
        due.is(18, "not HAD", x.game(4), 0);
        due.is(14, "HUNG: it can't be asked", x.asks(0), Due.NO);
        x.gallows(3);
        due.is(18, "not HUNG any more", x.game(5), 0);
        due.is(14, "it can be asked", x.asks(3), 0);
        x.gallows(1);
        due.is(18, "LINES over GALLOWS", x.game(5), 1);
        due.is(14, "it can't be asked", x.asks(0), Due.NO);
        due.is(18, "ASKED", x.game(1), 14);
    }

    private static void plays() {
        HangedWord x = three();
        x.asker(0, 5);
        x.asker(1, 0);
        due.is(15, "no HIDDEN", x.play(0), Due.NO);
        due.is(15, "no HIDDEN, no ASKER", x.play(2), Due.BAD);
        x.hide(1);
        due.is(15, "play(2)", x.play(2), Due.BAD);
        due.is(15, "play(-1)", x.play(-1), Due.BAD);
        // ASKER: 5, then 0, 1, 2, 3.
        due.is(15, "play(0)", x.play(0), 2);
        due.is(15, "ASKED", x.game(1), 1 | 2 | 4 | 8 | 32);
        due.is(15, "HAD", x.game(4), 1);
        due.is(15, "play of what is HAD", x.play(1), 2);
        x.hide(1);
        // FREQUENT: 0 (31), 1 (30), 3 (20).
        due.is(15, "play(1)", x.play(1), 0);
        due.is(15, "ASKED", x.game(1), 1 | 2 | 8);
        x.hide(2);
        x.gallows(3);
        due.is(15, "it is HUNG", x.play(1), 3);
        due.is(15, "ASKED", x.game(1), 1 | 2 | 8);
        due.is(15, "HUNG", x.game(5), 1);
        due.is(15, "play of what is HUNG", x.play(0), 3);
        x.gallows(9);
        due.is(15, "play on", x.play(0), 4);
        due.is(15, "ASKED", x.game(1), 63);
        x.hide(1);
        x.asks(4);
        due.is(15, "play from the midst of a game", x.play(1), 1);
    }

    private static void chooses() {
        HangedWord x = new HangedWord();
        due.is(16, "no WORDS", x.choose(), Due.NONE);
        due.is(16, "no draw", x.count(8), 1);
        x = three();
        int z = 12345;
        x.seed(z);
        for (int i = 0; i < 40; i++) {
            x.hide(2);
            x.asks(0);
            z = Due.nextZ(z);
            int rest = (z >>> 8) % 33;
            int want = rest < 10 ? 0 : rest < 30 ? 1 : 2;
            due.is(16, "choose", x.choose(), want);
            due.is(16, "HIDDEN", x.game(0), want);
            due.is(16, "ASKED", x.game(1), 0);
            due.is(16, "LINES", x.game(2), 0);
            due.is(16, "z", x.count(8), z);
        }
    }

    private static void choosesByText() {
        HangedWord x = three();
        Due.text(x, "draw n * 500");
        int z = 99;
        x.seed(z);
        for (int i = 0; i < 20; i++) {
            z = Due.nextZ(z);
            int rest = (z >>> 8) % 1499;
            due.is(16, "0, 500, 999 times", x.choose(), rest < 500 ? 1 : 2);
        }
        Due.text(x, "draw 1 - w / 10");
        for (int i = 0; i < 5; i++) {
            due.is(16, "0, -1 (held: 0), 1 times", x.choose(), 2);
        }
        Due.text(x, "draw 0 - w");
        x.hide(1);
        x.asks(5);
        x.seed(8);
        due.is(16, "none times", x.choose(), Due.NONE);
        due.is(16, "none is HIDDEN", x.game(0), Due.NONE);
        due.is(16, "ASKED is empty", x.game(1), 0);
        due.is(16, "LINES 0", x.game(2), 0);
        due.is(16, "no draw", x.count(8), 8);
    }

    private static void gallows() {
        HangedWord x = new HangedWord();
        due.is(17, "gallows(1)", x.gallows(1), 6);
        due.is(17, "gallows(9)", x.gallows(9), 1);
        due.is(17, "gallows(0)", x.gallows(0), Due.BAD);
        due.is(17, "gallows(10)", x.gallows(10), Due.BAD);
        due.is(17, "gallows(-1)", x.gallows(-1), Due.BAD);
        due.is(17, "GALLOWS", x.count(4), 9);
    }

    private static void games() {
        HangedWord x = new HangedWord();
        x.word(Due.row(0, 1, 2, 3), 1);
        x.word(Due.row(0, 1, 2, 4), 1);
        x.word(Due.row(0, 1, 3, 3), 1);
        x.word(Due.row(5, 1, 2, 3), 1);
        due.is(18, "none FITS", x.game(3), 0);
        due.is(18, "none, as a set", x.game(6), 0);
        x.hide(0);
        due.is(18, "all FIT", x.game(3), 4);
        due.is(18, "as a set", x.game(6), 15);
        x.asks(3);
        due.is(18, "with 3 at the last place alone", x.game(6), 9);
        due.is(18, "how many", x.game(3), 2);
        x.asks(4);
        due.is(18, "4 parts nothing more", x.game(6), 9);
        due.is(18, "ASKED", x.game(1), 24);
        due.is(18, "LINES", x.game(2), 1);
        x.asks(0);
        due.is(18, "one is left", x.game(6), 1);
        due.is(18, "game(7)", x.game(7), Due.BAD);
        due.is(18, "game(-1)", x.game(-1), Due.BAD);
    }
}
