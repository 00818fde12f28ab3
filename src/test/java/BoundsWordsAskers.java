/** Promises 1 to 12: words, askers. */
final class BoundsWordsAskers {
    private static final String THREE = "word(w0012, 10); word(w0113, 20); word(w4445, 3)";
    private static final String TWO_ASKERS = "asker(3, 4); asker(2, 1)";

    private BoundsWordsAskers() {
    }

    static void run(Bounds b) {
        newObject(b);
        word(b);
        wordTold(b);
        weigh(b);
        asker(b);
        told(b);
        score(b);
        as(b);
        turns(b);
        first(b);
        deal(b);
        seed(b);
    }

    private static void newObject(Bounds b) {
        b.test(1, "As told; no WORDS, no ASKERS.", "count(0) = 0; count(1) = 0; wordTold(0, 0) = BAD; told(0, 0) = BAD; hide(0) = BAD",
            "lines(0, 0) = BAD");
        b.test(1, "As told; no WORDS, no ASKERS.", "count(2) = 0; count(3) = 0; count(4) = 6; count(5) = 0; count(6) = 0; count(7) = 0; count(8) = 1",
            "game(0) = NONE; game(1) = 0; game(2) = 0; game(3) = 0; game(4) = 0; game(5) = 0; game(6) = 0",
            "why(0) = NONE; why(1) = NONE; why(2) = NONE; textTold(0, 0) = BAD; text() = -100; back() = NO; check(0, 1) = NO",
            "pour(0) = NOTHING; pour(1) = NOTHING; pour(2) = NOTHING; pour(3) = NOTHING",
            "item(0, 0) = NOTHING; item(1, 0) = NOTHING; item(2, 0) = NOTHING; item(3, 0) = NOTHING; item(4, 0) = NOTHING");
    }

    private static void word(Bounds b) {
        b.test(2, "One more WORD: its number.", "word(51, 10) = 0; wordTold(0, 0) = 51; wordTold(0, 1) = 10; word(1295, 99) = 1",
            "wordTold(1, 0) = 1295; wordTold(1, 1) = 99",
            "wordTold(0, 0) = 51; count(0) = 2");
        b.test(2, "One more WORD: its number.", "word(0, 1); hide(0); asks(5); asks(0); word(w0000, 2) = 1; wordTold(1, 3) = 1",
            "word(w0001, 2) = 2; wordTold(2, 3) = 0; game(0) = 0");
        b.bound(2, "BAD; FULL.", THREE, "word(?, 5)", 0, 1295);
        b.bound(2, "BAD; FULL.", THREE, "word(5, ?)", 1, 99);
        b.bound(2, "BAD; FULL.", "11 * word(0, 1)", "word(?, 5)", 0, 1295);
        String full = "11 * word(0, 1); word(5, 7) = 11";
        b.test(2, "BAD; FULL.", full, "word(0, 1) = FULL; word(1295, 99) = FULL; count(0) = 12; wordTold(11, 0) = 5; wordTold(11, 1) = 7");
        // Two at once: BAD stands first.
        b.test(2, "BAD; FULL.", full, "word(-1, 1) = BAD; word(1296, 1) = BAD; word(0, 0) = BAD; word(0, 100) = BAD; word(-1, 100) = BAD",
            "word(1296, 0) = BAD");
    }

    private static void wordTold(Bounds b) {
        String says = "Of a WORD: what 0 its LETTERS as one number, 1 WEIGHT, 2 its LETTERS as a set, 3 whether it FITS (1, 0). BAD.";
        b.test(3, says, THREE, "wordTold(2, 0) = " + Due.row(4, 4, 4, 5) + "; wordTold(2, 1) = 3; wordTold(2, 2) = 48; wordTold(2, 3) = 0",
            "hide(0); wordTold(2, 3) = 1",
            "asks(0); wordTold(0, 3) = 1; wordTold(1, 3) = 0; wordTold(2, 3) = 0");
        b.bound(3, says, THREE, "wordTold(?, 0)", 0, 2);
        b.bound(3, says, THREE + "; hide(0)", "wordTold(?, 3)", 0, 2);
        b.bound(3, says, THREE, "wordTold(1, ?)", 0, 3);
        b.test(3, says, "wordTold(0, 0) = BAD; wordTold(0, 1) = BAD; wordTold(0, 2) = BAD; wordTold(0, 3) = BAD; wordTold(-1, 4) = BAD");
    }

    private static void weigh(Bounds b) {
        String says = "WEIGHT of a WORD becomes v: what it was. BAD.";
        b.test(4, says, THREE, "weigh(2, 99) = 3; weigh(2, 1) = 99; weigh(2, 1) = 1; wordTold(2, 1) = 1; wordTold(0, 1) = 10; wordTold(1, 1) = 20");
        b.bound(4, says, THREE, "weigh(?, 5)", 0, 2);
        b.bound(4, says, THREE, "weigh(1, ?)", 1, 99);
        b.test(4, says, "weigh(0, 1) = BAD; weigh(0, 0) = BAD; word(0, 1); weigh(1, 100) = BAD; weigh(-1, 0) = BAD");
    }

    private static void asker(Bounds b) {
        b.test(5, "One more ASKER: its number.", "asker(3, 4) = 0; told(0, 0) = 3; told(0, 1) = 4; asker(3, 4) = 1; asker(0, 0) = 2",
            "told(1, 0) = 3; told(2, 1) = 0; count(1) = 3");
        b.bound(5, "BAD; FULL.", TWO_ASKERS, "asker(?, 2)", 0, 5);
        b.bound(5, "BAD; FULL.", TWO_ASKERS, "asker(2, ?)", 0, 5);
        b.bound(5, "BAD; FULL.", "7 * asker(1, 1)", "asker(?, 5)", 0, 5);
        String full = "7 * asker(1, 1); asker(4, 3) = 7";
        b.test(5, "BAD; FULL.", full, "asker(0, 0) = FULL; asker(5, 5) = FULL; count(1) = 8; told(7, 0) = 4; told(7, 1) = 3; told(0, 0) = 1");
        b.test(5, "BAD; FULL.", full, "asker(-1, 0) = BAD; asker(6, 0) = BAD; asker(0, -1) = BAD; asker(0, 6) = BAD; asker(6, -1) = BAD");
    }

    private static void told(Bounds b) {
        String says = "Of an ASKER: what 0 KIND, 1 FIRST, 2 NEXT (NONE: no HIDDEN, or all LETTERS are ASKED), 3 WORTH. BAD.";
        b.test(6, says, TWO_ASKERS + "; " + THREE, "told(0, 0) = 3; told(0, 1) = 4; told(0, 3) = 28; told(1, 0) = 2; told(1, 1) = 1",
            "told(1, 3) = 49; hide(0); told(0, 2) = 0");
        b.bound(6, says, TWO_ASKERS, "told(?, 0)", 0, 1);
        b.bound(6, says, TWO_ASKERS + "; word(0, 1); hide(0)", "told(?, 2)", 0, 1);
        b.bound(6, says, TWO_ASKERS, "told(1, ?)", 0, 3);
        b.test(6, says, "told(0, 0) = BAD; told(0, 2) = BAD; told(-1, 4) = BAD; asker(0, 0); told(1, 4) = BAD; told(1, -1) = BAD");
        b.test(6, "NEXT (NONE: no HIDDEN, or all LETTERS are ASKED)", TWO_ASKERS, "told(0, 2) = NONE; word(w5555, 1); told(0, 2) = NONE",
            "hide(0); told(0, 2) = 5; gallows(9)",
            "asks(0); asks(1); asks(2); asks(3); asks(4); told(0, 2) = 5; told(1, 2) = 5; asks(5); told(0, 2) = NONE; told(1, 2) = NONE",
            "text 'draw 0'; choose() = NONE; told(0, 2) = NONE");
        // Of a GAME that is HAD, or HUNG, there is a NEXT as long as not all are ASKED.
        b.test(6, "NEXT (NONE: no HIDDEN, or all LETTERS are ASKED)", "asker(0, 1); word(w0000, 1); hide(0); asks(0); game(4) = 1",
            "told(0, 2) = 1; gallows(1); hide(0); asks(1); game(5) = 1; told(0, 2) = 0");
    }

    private static void score(Bounds b) {
        String says = "SCORE of a LETTER for an ASKER. BAD: also if it is ASKED.";
        b.bound(7, says, TWO_ASKERS, "score(?, 0)", 0, 1);
        b.bound(7, says, TWO_ASKERS, "score(1, ?)", 0, 5);
        b.test(7, says, THREE + "; " + TWO_ASKERS, "hide(2); asks(4); score(0, 4) = BAD; score(0, 3) = 20; score(0, 5) = 1003; asks(0)",
            "score(0, 0) = BAD; score(1, 0) = BAD; score(1, 5) = 3",
            "hide(2); score(0, 4) = 1004; score(0, 0) = 2030");
        b.test(7, says, "score(0, 0) = BAD; score(-1, 6) = BAD; asker(0, 0); score(1, -1) = BAD; word(0, 1); hide(0); asks(0)",
            "score(1, 0) = BAD; score(0, 0) = BAD");
        b.test(7, says, "word(w0000, 1); gallows(9); asker(4, 0); hide(0); asks(1); asks(2); asks(3); asks(4); asks(5); score(0, 5) = BAD",
            "score(0, 0) = 4999; asks(0); score(0, 0) = BAD");
    }

    private static void as(Bounds b) {
        b.test(8, "An ASKER as one of a KIND: FIRST.", TWO_ASKERS, "as(0, 3) = 4; as(0, 1) = 4; as(0, 0) = 4; as(1, 2) = 1; as(1, 0) = 1",
            "first(1, 5); as(1, 0) = 5; turns(1, 1); as(1, 1) = 5");
        b.bound(8, "BAD: asker, kind;", TWO_ASKERS, "as(?, 0)", 0, 1);
        b.test(8, "BAD: asker, kind;", "asker(5, 2)", "as(0, -1) = BAD; as(0, 0) = 2; as(0, 5) = 2; as(0, 6) = BAD; as(0, MIN) = BAD",
            "as(0, MAX) = BAD");
        b.test(8, "KIND: it is not of that KIND, nor of one under it.", TWO_ASKERS, "as(0, 2) = KIND; as(0, 4) = KIND; as(0, 5) = KIND",
            "as(1, 1) = KIND; as(1, 3) = KIND; as(1, 4) = KIND",
            "turns(0, 0); as(0, 1) = KIND; as(0, 3) = KIND; turns(0, 1); as(0, 3) = KIND; turns(0, 5); as(0, 1) = KIND; as(0, 2) = KIND");
        // Two at once: no such ASKER, and a KIND that none could be.
        b.test(8, "BAD: asker, kind; KIND: it is not of that KIND, nor of one under it.", "as(0, 0) = BAD; as(0, 3) = BAD; asker(0, 0)",
            "as(1, 3) = BAD; as(-1, 6) = BAD; as(0, 3) = KIND");
    }

    private static void turns(Bounds b) {
        String says = "An ASKER is of another KIND from now on: what it was. BAD.";
        b.test(9, says, TWO_ASKERS, "turns(0, 0) = 3; turns(0, 5) = 0; turns(0, 5) = 5; told(0, 0) = 5; told(0, 1) = 4; told(1, 0) = 2",
            "told(0, 3) = 1");
        b.bound(9, says, TWO_ASKERS, "turns(?, 4)", 0, 1);
        b.bound(9, says, TWO_ASKERS, "turns(1, ?)", 0, 5);
        b.test(9, says, "turns(0, 0) = BAD; asker(0, 0); turns(1, 6) = BAD; turns(-1, -1) = BAD; told(0, 0) = 0");
    }

    private static void first(Bounds b) {
        String says = "FIRST of an ASKER becomes v: what it was. BAD.";
        b.test(10, says, TWO_ASKERS, "first(0, 0) = 4; first(0, 5) = 0; first(0, 5) = 5; told(0, 1) = 5; told(1, 1) = 1; told(0, 0) = 3");
        b.bound(10, says, TWO_ASKERS, "first(?, 2)", 0, 1);
        b.bound(10, says, TWO_ASKERS, "first(1, ?)", 0, 5);
        b.test(10, says, "first(0, 0) = BAD; asker(0, 3); first(1, 6) = BAD; first(-1, -1) = BAD; told(0, 1) = 3");
    }

    private static void deal(Bounds b) {
        String says = "WORDS are drawn, n (1 .. 12) of them, as many as there is room for (no draws for others): how many came. BAD.";
        b.bound(11, says, "", "deal(?)", 1, 12);
        b.bound(11, says, "12 * word(0, 1)", "deal(?)", 1, 12);
        b.test(11, says, "deal(1) = 1; count(0) = 1; deal(11) = 11; count(0) = 12; seed(5); deal(12) = 0; deal(1) = 0; count(8) = 5; count(0) = 12");
        b.test(11, says, "11 * word(0, 1); seed(5); deal(2) = 1; count(0) = 12; count(8) = " + Due.nextZ(Due.nextZ(5)) + "; deal(0) = BAD",
            "deal(13) = BAD");
        b.test(11, says, "seed(5); deal(12) = 12; count(0) = 12; word(0, 1) = FULL");
        b.test(11, says, "10 * word(0, 1); seed(5); deal(12) = 2; count(8) = " + Due.nextZ(Due.nextZ(Due.nextZ(Due.nextZ(5)))));
    }

    private static void seed(Bounds b) {
        b.test(12, "z becomes v: what it was.", "seed(0) = 1; seed(-1) = 0; seed(MAX) = -1; seed(MIN) = MAX; seed(BAD) = MIN; count(8) = BAD",
            "seed(5) = BAD");
    }
}
