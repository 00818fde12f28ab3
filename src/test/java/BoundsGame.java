/** Promises 13 to 18: a game. */
final class BoundsGame {
    private static final String THREE = "word(w0012, 10); word(w0113, 20); word(w4445, 3)";
    private static final String NO_HIDDEN = "word(w0012, 10); hide(0); asks(5); text 'draw 0'; choose() = NONE";
    private static final String HAD = "word(w0000, 1); word(w1111, 1); asker(0, 1); hide(0); asks(5); asks(0)";
    private static final String HUNG = "word(w0000, 1); word(w1111, 1); asker(0, 0); gallows(2); hide(0); asks(5); asks(4)";

    private BoundsGame() {
    }

    static void run(Bounds b) {
        hide(b);
        asks(b);
        play(b);
        choose(b);
        gallows(b);
        game(b);
    }

    private static void hide(Bounds b) {
        String says = "A WORD is HIDDEN (ASKED is empty, LINES 0 then): how many FIT. BAD.";
        b.test(13, says, THREE, "hide(1) = 3; game(0) = 1; asks(5); asks(0); game(2) = 1; game(1) = 33; hide(1) = 3; game(0) = 1",
            "game(1) = 0; game(2) = 0; hide(2) = 3; game(0) = 2");
        b.test(13, says, HAD, "hide(0) = 2; game(4) = 0; game(1) = 0; game(2) = 0");
        b.test(13, says, HUNG, "hide(1) = 2; game(5) = 0; game(1) = 0; game(2) = 0; count(4) = 2");
        b.bound(13, says, THREE, "hide(?)", 0, 2);
        b.bound(13, says, "11 * word(0, 1); word(5, 1); hide(3); asks(1)", "hide(?)", 0, 11);
        b.test(13, says, "hide(0) = BAD; word(0, 1); hide(1) = BAD; hide(0) = 1");
    }

    private static void asks(Bounds b) {
        b.test(14, "TO ASK a LETTER: at which places it is (a set; 0: nowhere).",
            "word(w0123, 1); word(w4455, 1); word(w0000, 1); hide(0); asks(3) = 8; asks(2) = 4; asks(1) = 2; asks(4) = 0; asks(0) = 1",
            "hide(1); asks(5) = 12; asks(4) = 3; hide(2); asks(0) = 15");
        b.bound(14, "BAD; NO: it can't be asked.", "word(w0055, 1); hide(0)", "asks(?)", 0, 5);
        String no = "BAD; NO: it can't be asked.";
        // Each reason by itself, and with a LETTER that is none: BAD stands first.
        b.test(14, no, "asks(0) = NO; asks(5) = NO; asks(-1) = BAD; asks(6) = BAD; word(0, 1); asks(0) = NO; asks(6) = BAD");
        b.test(14, no, NO_HIDDEN, "asks(0) = NO; asks(5) = NO; asks(6) = BAD; asks(-1) = BAD");
        b.test(14, no, "word(w0011, 1); hide(0); asks(0); asks(0) = NO; asks(2); asks(2) = NO; game(2) = 1; asks(1) = 12; asks(1) = NO");
        b.test(14, no, HAD, "asks(1) = NO; asks(0) = NO; asks(5) = NO; asks(6) = BAD; asks(-1) = BAD; game(1) = 33; game(2) = 1");
        b.test(14, no, HUNG, "asks(0) = NO; asks(5) = NO; asks(6) = BAD; asks(-1) = BAD; game(2) = 2; gallows(3); asks(5) = NO; asks(1) = 0",
            "asks(0) = NO; gallows(9); asks(0) = 15");
    }

    private static void play(Bounds b) {
        String says = "PLAY by an ASKER: LINES then. BAD; NO: no HIDDEN.";
        b.test(15, says, "asker(0, 3); asker(0, 0); word(w0001, 1); hide(0); play(0) = 1; game(1) = 11; game(4) = 1; play(1) = 1; game(1) = 11");
        b.test(15, says, "asker(0, 3); asker(0, 0); word(w0001, 1); hide(0); asks(5); play(1) = 1; game(1) = 35; hide(0); asks(5)",
            "play(0) = 2; game(1) = 43");
        b.test(15, says, HAD, "play(0) = 1; game(1) = 33; game(2) = 1");
        b.test(15, says, HUNG, "play(0) = 2; game(1) = 48; gallows(3); play(0) = 2; game(1) = 49; game(4) = 1");
        b.bound(15, says, "asker(0, 3); asker(5, 5); word(w0000, 1); hide(0)", "play(?)", 0, 1);
        b.test(15, says, "play(0) = BAD; asker(0, 0); play(0) = NO; play(1) = BAD; play(-1) = BAD; word(0, 1); play(0) = NO; hide(0)",
            "play(1) = BAD; play(0) = 0");
        b.test(15, says, NO_HIDDEN, "play(0) = BAD; asker(0, 0); play(0) = NO; play(1) = BAD");
    }

    private static void choose(Bounds b) {
        String says = "CHOOSING: which WORD. NONE.";
        b.test(16, says, "choose() = NONE; game(0) = NONE; word(0, 1); choose() = 0; game(0) = 0; seed(d0); choose() = 0; 11 * word(7, 1)",
            "seed(d11); choose() = 11; game(0) = 11; seed(d12); choose() = 0");
        b.test(16, says, HAD, "choose(); game(4) = 0; game(1) = 0; game(2) = 0");
        b.test(16, says, HUNG, "choose(); game(5) = 0; game(1) = 0; game(2) = 0; text 'draw 0'; choose() = NONE; game(0) = NONE",
            "choose() = NONE; text 'draw 1'; seed(d1); choose() = 1");
    }

    private static void gallows(Bounds b) {
        String says = "GALLOWS becomes v: what it was. BAD.";
        b.test(17, says, "gallows(1) = 6; gallows(9) = 1; gallows(9) = 9; gallows(5) = 9; count(4) = 5");
        b.bound(17, says, "", "gallows(?)", 1, 9);
        b.bound(17, says, HUNG, "gallows(?)", 1, 9);
    }

    private static void game(Bounds b) {
        String says = "Of the GAME: what 0 HIDDEN (NONE), 1 ASKED, 2 LINES, 3 how many FIT, 4 whether it is HAD, 5 HUNG (1, 0), 6 WORDS that FIT, as a set. BAD.";
        b.test(18, says, "game(0) = NONE; game(1) = 0; game(2) = 0; game(3) = 0; game(4) = 0; game(5) = 0; game(6) = 0");
        b.test(18, says, NO_HIDDEN, "game(0) = NONE; game(1) = 0; game(2) = 0; game(3) = 0; game(4) = 0; game(5) = 0; game(6) = 0");
        b.test(18, says, HAD, "game(0) = 0; game(1) = 33; game(2) = 1; game(3) = 1; game(4) = 1; game(5) = 0; game(6) = 1");
        b.test(18, says, HUNG, "game(0) = 0; game(1) = 48; game(2) = 2; game(3) = 2; game(4) = 0; game(5) = 1; game(6) = 3");
        b.test(18, says, THREE + "; hide(1); asks(1); asks(2)", "game(0) = 1; game(1) = 6; game(2) = 1; game(3) = 1; game(4) = 0",
            "game(5) = 0; game(6) = 2");
        b.bound(18, says, THREE + "; hide(1); asks(1)", "game(?)", 0, 6);
        b.bound(18, says, "", "game(?)", 0, 6);
    }
}
