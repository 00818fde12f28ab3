/** The sentences of "Terms", parts 1 to 3, and those ahead of them. */
final class BoundsTerms {
    /** LETTERS 0 0 1 2, 0 1 1 3, 4 4 4 5 with WEIGHTS 10, 20, 3. */
    private static final String THREE = "word(w0012, 10); word(w0113, 20); word(w4445, 3)";
    private static final String KINDS = "asker(0, 1); asker(1, 1); asker(2, 1); asker(3, 1); asker(4, 1); asker(5, 1)";
    /** All WORDS that there may be, all 0 0 0 1 with the most WEIGHT. */
    private static final String TWELVE = "12 * word(w0001, 99)";

    private BoundsTerms() {
    }

    static void run(Bounds b) {
        calls(b);
        words(b);
        theGame(b);
        askers(b);
        plainScores(b);
        otherScores(b);
        worths(b);
        nexts(b);
        asking(b);
        choosing(b);
        openKeeps(b);
        openEnds(b);
        draws(b);
        thought(b);
        best(b);
        askedBy(b);
    }

    private static void calls(Bounds b) {
        b.test(12, "An object is used for at most 512 calls after it has been made; what later calls answer is free.",
            "511 * seed(7); seed(8) = 7");
        b.test(45, "An object is used for at most 512 calls after it has been made; what later calls answer is free.",
            "word(0, 1); keep(); word(5, 5); 508 * back(); weigh(0, 2) = 1");
        b.test(27, "All numbers are whole; / cuts towards 0.",
            "text 'fine 7/2'; fine() = 3; text 'fine (0-7)/2'; fine() = -3; text 'fine 7/(0-2)'; fine() = -3",
            "text 'fine (0-7)/(0-2)'; fine() = 3; text 'fine 1/2'; fine() = 0; text 'fine (0-1)/2'; fine() = 0");
        b.test(30, "A call that is refused answers one of BAD, NO, FULL, or a FINDING, of several the one that stands first with it, and"
            + " changes nothing (but the tape and the numbers that wait, where told).",
            "14 * text 'ask 1'; tape 'ask 1 1'; text() = -106; tape 'ask 1'; text() = FULL; count(7) = 0; count(5) = 14");
        b.test(43, "A call that is refused answers one of BAD, NO, FULL, or a FINDING, of several the one that stands first with it, and"
            + " changes nothing (but the tape and the numbers that wait, where told).",
            "3 * tell(1); check(0, 0) = BAD; count(6) = 0; 3 * tell(1); check(0, 1) = NO; count(6) = 0");
        b.test(18, "NONE: there is none.", "game(0) = NONE; best(1) = NONE; why(0) = NONE; choose() = NONE");
        b.test(18, "Sets of WORDS and of LETTERS are told by bits.",
            "12 * word(w0000, 1); game(6) = 0; hide(0) = 12; game(6) = 4095; asks(0) = 15; game(6) = 4095");
        b.test(18, "Sets of WORDS and of LETTERS are told by bits.",
            "word(w5555, 1); word(w0123, 1); hide(0) = 2; game(1) = 0; asks(0) = 0; game(1) = 1; game(6) = 1; asks(4) = 0; game(1) = 17",
            "asks(1) = 0; asks(2) = 0; asks(3) = 0; game(1) = 31; asks(5) = 15; game(1) = 63");
    }

    private static void words(Bounds b) {
        b.test(5, "LETTERS are 0 .. 5.", "asker(0, -1) = BAD; asker(0, 0) = 0; asker(0, 5) = 1; asker(0, 6) = BAD");
        b.test(10, "LETTERS are 0 .. 5.", "asker(0, 3); first(0, -1) = BAD; first(0, 0) = 3; first(0, 5) = 0; first(0, 6) = BAD; told(0, 1) = 5");
        b.test(7, "LETTERS are 0 .. 5.", "asker(0, 5); score(0, -1) = BAD; score(0, 0) = 0; score(0, 5) = 100; score(0, 6) = BAD");
        b.test(14, "LETTERS are 0 .. 5.", "word(w0055, 1); hide(0); asks(-1) = BAD; asks(6) = BAD; asks(0) = 3; asks(5) = 12");
        b.test(2, "WORDS, 12 at most, numbered from 0:",
            "word(0, 1) = 0; word(0, 1) = 1; 9 * word(0, 1); count(0) = 11; word(0, 1) = 11; count(0) = 12; word(0, 1) = FULL; count(0) = 12");
        b.test(3, "WORDS, 12 at most, numbered from 0:",
            "wordTold(0, 0) = BAD; 11 * word(5, 1); word(7, 2); wordTold(-1, 0) = BAD; wordTold(0, 0) = 5; wordTold(11, 0) = 7",
            "wordTold(12, 0) = BAD");
        b.test(2, "four LETTERS each (at places 0 .. 3), told as one number: 216, 36, 6 times the first three and the last, together (0 .. 1295);",
            "word(-1, 1) = BAD; word(0, 1) = 0; word(1295, 1) = 1; word(1296, 1) = BAD; wordTold(0, 2) = 1; wordTold(1, 2) = 32",
            "word(1, 1) = 2; word(6, 1) = 3; word(36, 1) = 4; word(216, 1) = 5; word(215, 1) = 6; wordTold(6, 0) = 215; wordTold(6, 2) = 33",
            "gallows(9); hide(2); asks(1) = 8; hide(3); asks(1) = 4; hide(4); asks(1) = 2; hide(5); asks(1) = 1; hide(6); asks(0) = 1; asks(5) = 14");
        b.test(2, "WEIGHT 1 .. 99.", "word(0, 0) = BAD; word(0, 1) = 0; word(0, 99) = 1; word(0, 100) = BAD; wordTold(0, 1) = 1",
            "wordTold(1, 1) = 99");
        b.test(4, "WEIGHT 1 .. 99.", "word(0, 7); weigh(0, 0) = BAD; weigh(0, 1) = 7; weigh(0, 99) = 1; weigh(0, 100) = BAD; wordTold(0, 1) = 99");
        b.test(2, "(Two WORDS may be alike.)",
            "word(w0123, 4) = 0; word(w0123, 4) = 1; hide(1) = 2; asks(0) = 1; asks(1) = 2; asks(2) = 4; asks(3) = 8; game(6) = 3");
    }

    private static void theGame(Bounds b) {
        b.test(18, "A GAME: HIDDEN, a WORD (or none, at first); ASKED, a set of LETTERS (none at first); LINES (0).",
            "game(0) = NONE; game(1) = 0; game(2) = 0; word(0, 1); game(0) = NONE");
        b.test(17, "GALLOWS is 1 .. 9 (6 at first).", "count(4) = 6; gallows(0) = BAD; gallows(10) = BAD; gallows(1) = 6; gallows(9) = 1",
            "gallows(9) = 9");
        b.test(3, "A WORD FITS, if at each place: its LETTER and that of HIDDEN are alike, or neither is ASKED;",
            "word(w0123, 1); word(w0123, 1); word(w0124, 1); word(w0155, 1); word(w3210, 1); hide(0) = 5; game(6) = 31",
            "asks(4) = 0; game(6) = 27; asks(0) = 1; game(6) = 11; asks(1) = 2; game(6) = 11; asks(2) = 4; game(6) = 3; asks(3) = 8; game(6) = 3");
        b.test(18, "A WORD FITS, if at each place: its LETTER and that of HIDDEN are alike, or neither is ASKED;",
            // One place alone tells them apart: the first, the second, the third, the last.
            "word(w0000, 1); word(w1000, 1); word(w0100, 1); word(w0010, 1); word(w0001, 1); hide(0) = 5; asks(1) = 0; game(6) = 1",
            "hide(0); asks(0) = 15; game(6) = 1; hide(1); asks(1) = 1; game(6) = 2; hide(4); asks(0) = 7; game(6) = 16; hide(2); asks(5) = 0",
            "game(6) = 31");
        b.test(18, "(none FITS without HIDDEN).", TWELVE + "; game(3) = 0; game(6) = 0; wordTold(0, 3) = 0; wordTold(11, 3) = 0");
        b.test(3, "(none FITS without HIDDEN).",
            "word(0, 1); hide(0); wordTold(0, 3) = 1; text 'draw 0'; choose() = NONE; wordTold(0, 3) = 0; game(6) = 0; game(3) = 0");
        b.test(18, "The GAME is HAD, if all LETTERS of HIDDEN are ASKED;",
            "game(4) = 0; word(w0123, 1); hide(0); game(4) = 0; asks(0); asks(1); asks(2); game(4) = 0; asks(5); game(4) = 0; asks(3); game(4) = 1",
            "hide(0); game(4) = 0");
        b.test(18, "else HUNG, if LINES are GALLOWS or more.",
            "word(w0000, 1); gallows(3); hide(0); game(5) = 0; asks(1); asks(2); game(5) = 0; asks(3); game(2) = 3; game(5) = 1",
            "gallows(4); game(5) = 0; gallows(3); game(5) = 1; gallows(2); game(5) = 1; gallows(1); game(5) = 1; game(4) = 0");
        b.test(18, "else HUNG, if LINES are GALLOWS or more.",
            "word(w0000, 1); hide(0); asks(1); asks(2); asks(0); gallows(2); game(4) = 1; game(5) = 0; gallows(1); game(5) = 0");
    }

    private static void askers(Bounds b) {
        b.test(5, "ASKERS, 8 at most, numbered from 0:",
            "asker(0, 0) = 0; asker(0, 0) = 1; 5 * asker(0, 0); count(1) = 7; asker(5, 5) = 7; count(1) = 8; asker(0, 0) = FULL; count(1) = 8");
        b.test(6, "ASKERS, 8 at most, numbered from 0:",
            "told(0, 0) = BAD; 7 * asker(1, 0); asker(5, 5); told(-1, 0) = BAD; told(0, 0) = 1; told(7, 0) = 5; told(8, 0) = BAD");
        b.test(5, "FIRST (a LETTER), and of KINDS: 0 ASKER;",
            "asker(-1, 0) = BAD; asker(0, 5) = 0; asker(5, 0) = 1; asker(6, 0) = BAD; told(0, 0) = 0; told(0, 1) = 5; told(1, 0) = 5",
            "told(1, 1) = 0");
        String under = "1 FREQUENT, 2 FITTING, 5 WASTED, under ASKER; 3 SAFE, under FREQUENT; 4 PARTING, under FITTING (all are ASKERS).";
        String[] above = {"0", "10", "20", "310", "420", "50"};
        for (int kind = 0; kind < 6; kind++) {
            StringBuilder as = new StringBuilder("asker(" + kind + ", 3); lay(0, 1, 0)");
            for (int other = 0; other < 6; other++) {
                boolean is = above[kind].indexOf('0' + other) >= 0;
                as.append("; as(0, ").append(other).append(is ? ") = 3" : ") = KIND");
            }
            b.test(8, under, as.toString());
            b.test(39, under, as.toString().replace("as(", "ask(").replace("= 3", "= " + worth(kind, 3)));
        }
    }

    private static int worth(int kind, int first) {
        switch (kind) {
            case 0: return first;
            case 1: return first + 10;
            case 2: return 50 - first;
            case 3: return 2 * (first + 10);
            case 4: return 50 - first - 6;
            default: return 1;
        }
    }

    private static void plainScores(Bounds b) {
        b.test(7, "SCORE of a LETTER that is not ASKED:",
            THREE + "; asker(0, 1); hide(0); score(0, 1) = 100; asks(1) = 4; score(0, 1) = BAD; score(0, 0) = 0; asks(3) = 0; score(0, 3) = BAD");
        b.test(7, "(without a TEXT: 100 if it is FIRST, else 0).",
            "asker(0, 5); score(0, 5) = 100; score(0, 4) = 0; score(0, 0) = 0; first(0, 0); score(0, 0) = 100; score(0, 5) = 0; score(0, 1) = 0");
        b.test(7, "ASKER: what ask gives, held within 0 .. 9999",
            "asker(0, 1); asker(5, 1); text 'ask 0-1'; score(0, 0) = 0; score(1, 0) = 9999; text 'ask 0'; score(0, 0) = 0; text 'ask 1'",
            "score(0, 0) = 1",
            "text 'ask 9998'; score(0, 0) = 9998; text 'ask 9999'; score(0, 0) = 9999; score(1, 0) = 0; text 'ask 9999+1'",
            "score(0, 0) = 9999; score(1, 0) = 0",
            "text 'ask 4096*4096*128'; score(0, 0) = 0; text 'ask 4096*4096*128-1'; score(0, 0) = 9999");
        b.test(7, "WASTED: 9999 less as ASKER.",
            "asker(5, 2); score(0, 2) = 9899; score(0, 3) = 9999; text 'ask 9999-f'; score(0, 2) = 1; score(0, 3) = 0");
    }

    private static void otherScores(Bounds b) {
        b.test(7, "FREQUENT: WEIGHTS of all WORDS that have it, together, and 1 if it is FIRST.",
            "asker(1, 0); score(0, 0) = 1; score(0, 1) = 0; " + TWELVE + "; score(0, 0) = 1189; score(0, 1) = 1188; score(0, 2) = 0; first(0, 2)",
            "score(0, 2) = 1; score(0, 0) = 1188; hide(0); asks(1) = 8; score(0, 0) = 1188; weigh(11, 1); score(0, 0) = 1090");
        b.test(7, "SAFE: as FREQUENT, and 1000 for each WORD that FITS and has it.",
            "asker(3, 0); " + TWELVE + "; score(0, 0) = 1189; hide(0); score(0, 0) = 13189; score(0, 1) = 13188; score(0, 5) = 0",
            "first(0, 5); score(0, 5) = 1");
        b.test(7, "SAFE: as FREQUENT, and 1000 for each WORD that FITS and has it.",
            THREE + "; asker(3, 1); hide(0); score(0, 0) = 2030; asks(2) = 8; score(0, 0) = 1030; score(0, 1) = 1031; score(0, 3) = 20",
            "score(0, 4) = 3");
        b.test(7, "FITTING: WEIGHTS of all WORDS that FIT and have it, together.",
            "asker(2, 0); " + TWELVE + "; score(0, 0) = 0; hide(0); score(0, 0) = 1188; score(0, 1) = 1188; score(0, 2) = 0");
        b.test(7, "FITTING: WEIGHTS of all WORDS that FIT and have it, together.",
            THREE + "; asker(2, 0); hide(0); score(0, 0) = 30; score(0, 3) = 20; asks(2) = 8; score(0, 0) = 10; score(0, 3) = 0; score(0, 4) = 0");
        b.test(7, "PARTING: 5000 less the greatest sum of WEIGHTS of a CLASS of it.",
            "asker(4, 0); score(0, 0) = 5000; " + TWELVE + "; score(0, 0) = 5000; hide(0); score(0, 0) = 3812; score(0, 5) = 3812",
            "weigh(11, 1); score(0, 0) = 3910");
        b.test(7, "CLASSES of a LETTER: those that FIT, parted by the places at which they have it (a set of places; none is one, too).",
            THREE + "; asker(4, 0); hide(0); score(0, 0) = 4980; score(0, 1) = 4980; score(0, 4) = 4970; score(0, 2) = 4977",
            "asks(2) = 8; score(0, 0) = 4990; score(0, 4) = 4990; score(0, 3) = 4990");
        // Places 0 1 2 3 of a LETTER by themselves, none, and two together: each set is a CLASS of its own.
        b.test(7, "CLASSES of a LETTER: those that FIT, parted by the places at which they have it (a set of places; none is one, too).",
            "word(w0111, 10); word(w1011, 11); word(w1101, 12); word(w1110, 13); word(w1111, 14); word(w0011, 15); word(w1100, 16); asker(4, 0)",
            "hide(0); score(0, 0) = 4984; word(w0000, 17); score(0, 0) = 4983; word(w2222, 4); score(0, 0) = 4982; word(w1110, 6)",
            "score(0, 0) = 4981");
    }

    private static void worths(Bounds b) {
        String says = "WORTH: ASKER: FIRST. FREQUENT: as ASKER, and 10. SAFE: twice as FREQUENT. FITTING: 50 less FIRST. PARTING: as FITTING, less 6."
            + " WASTED: 1. (A KIND that is not named does as the one above it.)";
        for (int first = 0; first < 6; first++) {
            for (int kind = 0; kind < 6; kind++) {
                b.test(6, says, "asker(" + kind + ", " + first + "); told(0, 3) = " + worth(kind, first));
            }
        }
    }

    private static void nexts(Bounds b) {
        String says = "An ASKER's NEXT: the LETTER that is not ASKED with the greatest SCORE; of several the least.";
        b.test(6, says, KINDS + "; " + THREE + "; hide(0)", "told(0, 2) = 1; told(1, 2) = 1; told(2, 2) = 0; told(3, 2) = 1; told(4, 2) = 0",
            "told(5, 2) = 0",
            "asks(1)", "told(0, 2) = 0; told(1, 2) = 0; told(2, 2) = 0; told(3, 2) = 0; told(4, 2) = 0; told(5, 2) = 0");
        b.test(6, says, "asker(0, 5); word(w1234, 1); hide(0); told(0, 2) = 5; asks(5); told(0, 2) = 0; asks(0); told(0, 2) = 1");
        b.test(6, says, "asker(5, 0); word(w1234, 1); hide(0); told(0, 2) = 1; first(0, 1); told(0, 2) = 0; text 'ask 9999'; told(0, 2) = 0");
        b.test(6, says, "asker(0, 2); word(w5555, 1); gallows(9); hide(0); asks(0); asks(1); asks(3); asks(4); told(0, 2) = 2; asks(2)",
            "told(0, 2) = 5");
    }

    private static void asking(Bounds b) {
        b.test(14, "TO ASK a LETTER (that is not ASKED, in a GAME with HIDDEN that is neither HAD nor HUNG): it is ASKED;",
            "word(w0012, 1); asks(0) = NO; hide(0); asks(0) = 3; asks(0) = NO; game(1) = 1; asks(3) = 0; asks(3) = NO; game(1) = 9; game(2) = 1");
        b.test(14, "TO ASK a LETTER (that is not ASKED, in a GAME with HIDDEN that is neither HAD nor HUNG): it is ASKED;",
            "word(w0000, 1); hide(0); asks(0) = 15; asks(1) = NO; gallows(1); hide(0); asks(1) = 0; asks(0) = NO; asks(1) = NO; gallows(2)",
            "asks(0) = 15");
        b.test(14, "if HIDDEN has it nowhere, LINES is 1 more.",
            "word(w0123, 1); word(w4444, 1); hide(0); asks(3) = 8; game(2) = 0; asks(4) = 0; game(2) = 1; asks(5) = 0; game(2) = 2",
            "asks(0) = 1; game(2) = 2");
        b.test(15, "PLAY by an ASKER: it asks NEXT, till the GAME is HAD or HUNG.",
            "asker(0, 0); word(w0000, 1); word(w5555, 1); word(w4444, 1); hide(0); play(0) = 0; game(1) = 1; hide(1); play(0) = 5",
            "game(1) = 63; game(4) = 1",
            // Just as many lines as GALLOWS; one less; one more.
            "gallows(4); hide(2); play(0) = 4; game(1) = 15; game(5) = 1; game(4) = 0; gallows(5); play(0) = 4; game(1) = 31; game(4) = 1",
            "gallows(3); hide(2); play(0) = 3; game(1) = 7; game(5) = 1; play(0) = 3; game(1) = 7; gallows(1); hide(1); play(0) = 1; game(1) = 1");
    }

    private static void choosing(Bounds b) {
        b.test(16, "CHOOSING: HIDDEN becomes a WORD by a draw:",
            "word(0, 1); seed(d0); choose() = 0; count(8) = 0; game(0) = 0; seed(1); choose() = 0; count(8) = 1103527590");
        b.test(16, "(without a TEXT: WEIGHT);", "word(0, 1); word(0, 99); seed(d0); choose() = 0; seed(d1); choose() = 1; seed(d99)",
            "choose() = 1; seed(d100); choose() = 0");
        b.test(16, "WORDS by numbers, each as many times as what draw gives for it, held within 0 .. 999",
            "word(0, 1); word(0, 1); word(0, 1)",
            // -1 times is none; 0 times is none: word 2 alone is there.
            "text 'draw n/2-(n=0)'; seed(d0); choose() = 2; seed(d1); choose() = 2",
            // 1 time; 998, 999 times; 1000 times are 999.
            "text 'draw 1+(n=0)*997'; seed(d997); choose() = 0; seed(d998); choose() = 1; seed(d999); choose() = 2; seed(d1000); choose() = 0",
            "text 'draw 1+(n=0)*998'; seed(d998); choose() = 0; seed(d999); choose() = 1; seed(d1000); choose() = 2; seed(d1001); choose() = 0",
            "text 'draw 1+(n=0)*999'; seed(d998); choose() = 0; seed(d999); choose() = 1; seed(d1000); choose() = 2; seed(d1001); choose() = 0",
            "text 'draw 9999+n'; seed(d998); choose() = 0; seed(d999); choose() = 1; seed(d1998); choose() = 2; seed(d2996); choose() = 2",
            "seed(d2997); choose() = 0");
        b.test(16, "the one with the number (from 0 on) that is the draw's rest by how many times there are, together",
            THREE, "seed(d0); choose() = 0; seed(d9); choose() = 0; seed(d10); choose() = 1; seed(d29); choose() = 1; seed(d30)",
            "choose() = 2; seed(d32); choose() = 2",
            "seed(d33); choose() = 0; seed(d42); choose() = 0; seed(d43); choose() = 1",
            // 16777215, the greatest draw, has the rest 15 by 33: there z is below 0.
            "seed(d16777215); choose() = 1; count(8) = -256; seed(d16777214); choose() = 1; seed(d16777209); choose() = 0");
        b.test(16, "(none times: none is HIDDEN, no draw); ASKED is empty, LINES 0.",
            "choose() = NONE; count(8) = 1; word(w0000, 1); hide(0); asks(5); game(2) = 1; text 'draw 0-w'; choose() = NONE; count(8) = 1",
            "game(0) = NONE; game(1) = 0; game(2) = 0; game(5) = 0");
        b.test(16, "ASKED is empty, LINES 0.", "word(w0000, 1); hide(0); asks(5); asks(0); choose() = 0; game(1) = 0; game(2) = 0; game(4) = 0");
    }

    private static void openKeeps(Bounds b) {
        b.test(22, "OPEN: a chooser that holds it open, with an ASKER, from an empty ASKED on, LINES 0, all WORDS FIT at first:",
            "word(w5555, 1); word(w0000, 1); asker(0, 0); weigh(0, 2); open(0) = 5; hide(1); asks(0); open(0) = 5; hide(0); asks(0); asks(1)",
            "open(0) = 5");
        b.test(22, "(SCORES by those that FIT so)",
            // FITTING: 0 has 10, 4 has 9: word 3 is kept, and then 4 has more than 1.
            "asker(2, 0); word(w0111, 4); word(w0222, 3); word(w3000, 3); word(w4444, 9); open(0) = 1",
            // Without it 0 is kept at the first place (7), then 1 (4 of 7) at three places.
            "weigh(3, 6); open(0) = 0");
        b.test(22, "(SCORES by those that FIT so)",
            // What ask gives heeds them, too: behind 0 word 1 is kept, and 2 (14 of all WORDS) has less than 1.
            "asker(0, 0); word(w0222, 9); word(w5111, 10); word(w2033, 5); text 'ask w+f*99'; open(0) = 1; weigh(0, 12); open(0) = 0");
        String kept = "at each NEXT (SCORES by those that FIT so) the CLASS of it with the greatest sum of WEIGHTS is kept (of several the one of no places;"
            + " else the least set of places as bits);";
        b.test(22, kept,
            // 0: at place 0 (10: 4 LINES behind it), at the others (10: none behind it), nowhere (9, 10, 11: none behind it).
            "asker(0, 0); word(w0555, 10); word(w1000, 10); word(w1111, 9); open(0) = 4; weigh(2, 10); open(0) = 1; weigh(2, 11); open(0) = 1",
            "weigh(2, 10); weigh(1, 11); open(0) = 0; weigh(0, 11); open(0) = 4");
        b.test(22, kept,
            // 0 at place 0 with 1 behind it (1 is next: no line); at place 1 with 5 (4 lines) as soon as that is more.
            "asker(0, 0); word(w0111, 5); word(w5055, 5); open(0) = 0; weigh(1, 6); open(0) = 4; weigh(0, 6); open(0) = 0");
        b.test(22, kept,
            // The sum of a CLASS, not the WORD with the most WEIGHT.
            "asker(0, 0); word(w0111, 5); word(w0111, 4); word(w5555, 8); open(0) = 0; weigh(2, 9); open(0) = 5");
        b.test(22, "if it is that of no places, LINES is 1 more;", "asker(0, 5); word(w0000, 1); open(0) = 1; first(0, 0); open(0) = 0",
            "first(0, 1); open(0) = 1");
    }

    private static void openEnds(Bounds b) {
        b.test(22, "till all that FIT have their LETTERS ASKED all, or LINES are GALLOWS.",
            "asker(0, 0); open(0) = 0; word(w5555, 1); open(0) = 5; gallows(5); open(0) = 5; gallows(4); open(0) = 4; gallows(1)",
            "open(0) = 1; gallows(9); open(0) = 5");
        b.test(22, "till all that FIT have their LETTERS ASKED all, or LINES are GALLOWS.",
            // Behind 0 both FIT and one of them has its LETTERS ASKED all, but not the other one, which has more.
            "asker(0, 0); word(w0001, 4); word(w0003, 5); open(0) = 2; word(w0001, 1); open(0) = 2; weigh(2, 2); open(0) = 0; gallows(1)",
            "weigh(1, 9); open(0) = 1");
    }

    private static void draws(Bounds b) {
        b.test(46, "z is told (1 at first).", "count(8) = 1; seed(5) = 1; count(8) = 5; deal(1); seed(1) = " + Due.nextZ(Due.nextZ(5)));
        b.test(11, "A draw: z becomes z * 1103515245 + 12345 (an int); it gives z >>> 8.",
            "seed(0); deal(1); count(8) = " + Due.nextZ(Due.nextZ(0)) + "; wordTold(0, 0) = " + ((12345 >>> 8) % 1296),
            "seed(MAX); deal(1); count(8) = " + Due.nextZ(Due.nextZ(Due.MAX)) + "; wordTold(1, 0) = " + ((Due.nextZ(Due.MAX) >>> 8) % 1296),
            "seed(MIN); deal(1); count(8) = " + Due.nextZ(Due.nextZ(Due.MIN)) + "; wordTold(2, 0) = " + ((Due.nextZ(Due.MIN) >>> 8) % 1296));
        b.test(11, "A draw: z becomes z * 1103515245 + 12345 (an int); it gives z >>> 8.",
            // Behind it z is 0, 256; the greatest that it can be so; below 0 from MIN on.
            "word(0, 1); word(0, 1); seed(d0); choose() = 0; count(8) = 0; seed(d1); choose() = 1; count(8) = 256; seed(d8388607)",
            "choose() = 1; count(8) = 2147483392",
            "seed(d8388608); choose() = 0; count(8) = MIN; seed(d8388609); choose() = 1; count(8) = -2147483392; seed(d16777215)",
            "choose() = 1; count(8) = -256");
        String drawn = "WORDS that are drawn: LETTERS the rest by 1296 of a draw, WEIGHT 1 and the rest of one more by 20.";
        b.test(11, drawn, "seed(d0); deal(1); seed(d1295); deal(1); seed(d1296); deal(1); seed(d1297); deal(1); seed(d16777215); deal(1)",
            "wordTold(0, 0) = 0; wordTold(1, 0) = 1295; wordTold(2, 0) = 0; wordTold(3, 0) = 1; wordTold(4, 0) = " + 16777215 % 1296);
        b.test(11, drawn, "seed(e0); deal(1); seed(e1); deal(1); seed(e18); deal(1); seed(e19); deal(1); seed(e20); deal(1); seed(e16777215)",
            "deal(1)",
            "wordTold(0, 1) = 1; wordTold(1, 1) = 2; wordTold(2, 1) = 19; wordTold(3, 1) = 20; wordTold(4, 1) = 1; wordTold(5, 1) = 16");
    }

    private static void thought(Bounds b) {
        // That nothing changes is seen behind each of these calls, wherever they stand: see Bounds.
        int z = 1;
        int hung = 0;
        for (int i = 0; i < 30; i++) {
            z = Due.nextZ(z);
            hung += (z >>> 8) % 3 == 2 ? 1 : 0;
        }
        b.test(25, "(All this is only thought: nothing changes.)",
            THREE + "; " + KINDS + "; hide(1); asks(5); asks(1); sheet(0, 0, 3); keep(); gallows(1); text 'draw 1'; text 'ask n'",
            "lines(2, 0) = 1; worst(0, 0) = 2; even(0) = 1; open(0) = 0; best(0) = 0; best(1) = 0; sure() = 9; behind(0, 30, 0) = " + hung,
            "askedBy(0, 0) = 0; fine() = 1; game(0) = 1; game(1) = 34; game(2) = 1; count(8) = 1");
        b.test(19, "LINES of a WORD by an ASKER: of a GAME in which it is HIDDEN, from an empty ASKED on, without GALLOWS, till it is HAD.",
            "asker(0, 0); word(w5555, 1); word(w0000, 1); gallows(1); lines(0, 0) = 5; lines(1, 0) = 0; hide(1); asks(0); lines(0, 0) = 5",
            "lines(1, 0) = 0",
            "first(0, 5); lines(0, 0) = 0; lines(1, 0) = 1");
        b.test(20, "WORST of an ASKER: the WORD with the most LINES; of several the least.",
            "asker(0, 0); word(w0000, 1); worst(0, 0) = 0; worst(0, 1) = 0; word(w0000, 9); worst(0, 0) = 0; word(w3333, 1); worst(0, 0) = 2",
            "worst(0, 1) = 3",
            "word(w3333, 9); word(w2222, 9); worst(0, 0) = 2; 6 * word(w1111, 1); word(w5555, 1); worst(0, 0) = 11; worst(0, 1) = 5",
            "gallows(1); worst(0, 1) = 5");
        String even = "EVEN for an ASKER: the least GALLOWS 1 .. 9 with which not more than half (by WEIGHTS) of the WORDS are HUNG.";
        b.test(21, even, "asker(0, 0); even(0) = 1; word(w0000, 50); even(0) = 1; word(w5555, 49); even(0) = 1; weigh(1, 50); even(0) = 1",
            "weigh(1, 51); even(0) = 6");
        b.test(21, even,
            // LINES 1, 2, 3, 4, 5: with GALLOWS as many as that, too, it is HUNG.
            "asker(0, 0); word(w1111, 1); even(0) = 2; word(w2222, 2); even(0) = 3; word(w3333, 4); even(0) = 4; word(w4444, 8); even(0) = 5",
            "word(w5555, 16); even(0) = 6",
            "weigh(4, 15); even(0) = 5; gallows(9); even(0) = 5; gallows(1); even(0) = 5");
        b.test(22, "OPEN LINES of an ASKER: LINES at the end of OPEN (with GALLOWS as it is).",
            "asker(0, 0); word(w3333, 1); gallows(2); open(0) = 2; gallows(3); open(0) = 3; gallows(4); open(0) = 3");
        b.test(24, "SURE: all LETTERS, not ASKED, that all WORDS that FIT have (none, if none FITS).",
            "sure() = 0; word(w0012, 1); sure() = 0; hide(0); sure() = 7; word(w0013, 1); sure() = 3; asks(0); sure() = 2; asks(1)",
            "sure() = 0; asks(2); sure() = 0",
            "hide(0); asks(3); sure() = 7; word(w5555, 1); sure() = 0; text 'draw 0'; choose() = NONE; sure() = 0");
        b.test(25, "BEHIND n CHOOSINGS and PLAYS by an ASKER, one behind the other: how many were HUNG; LINES of all, together.",
            "asker(0, 0); word(w0000, 1); word(w5555, 1); seed(d0); behind(0, 1, 1) = 0; seed(d1); behind(0, 1, 1) = 5; behind(0, 1, 0) = 0",
            "gallows(5); behind(0, 1, 0) = 1; behind(0, 1, 1) = 5; gallows(4); behind(0, 1, 0) = 1; behind(0, 1, 1) = 4; behind(0, 1, 1) = 4");
    }

    private static void best(Bounds b) {
        String least = "BEST: the least number of LINES that any way of asking has at worst (over all that FIT now, from ASKED on; by what was answered;"
            + " 0, if none FITS),";
        String letter = "and the least LETTER by which it begins (not ASKED; none, if all that FIT have all their LETTERS ASKED).";
        b.test(23, least, "best(0) = 0; word(w0000, 1); word(w1111, 1); best(0) = 0; hide(0); best(0) = 1; best(1) = 0; text 'draw 0'",
            "choose() = NONE; best(0) = 0; best(1) = NONE");
        String six = "word(w0000, 1); word(w1111, 1); word(w2222, 1); word(w3333, 1); word(w4444, 1); word(w5555, 99); gallows(9); hide(5)";
        b.test(23, least, six, "best(0) = 5; asks(1); best(0) = 4; asks(0); best(0) = 3; asks(4); best(0) = 2; asks(3); best(0) = 1; asks(2)",
            "best(0) = 0; asks(5); best(0) = 0");
        b.test(23, letter, six, "best(1) = 0; asks(1); best(1) = 0; asks(0); best(1) = 2; asks(4); best(1) = 2; asks(3); best(1) = 2",
            "asks(2); best(1) = 5; asks(5); best(1) = NONE");
        b.test(23, letter, "best(1) = NONE; word(w0000, 1); best(1) = NONE; hide(0); best(1) = 0; asks(0); best(1) = NONE; hide(0)",
            "gallows(1); asks(1); game(5) = 1; best(1) = 0");
        // A LETTER that was found tells nothing more: two of three WORDS still miss, then one of two, then none.
        String three = "word(w0001, 1); word(w0002, 1); word(w0003, 99); gallows(1); hide(2)";
        b.test(23, least, three, "best(0) = 2; asks(0) = 7; best(0) = 2; gallows(9); asks(1) = 0; best(0) = 1; asks(2) = 0; best(0) = 0",
            "asks(3) = 8; best(0) = 0");
        b.test(23, least, three, "asks(0) = 7; best(0) = 2; best(1) = 1");
        b.test(23, letter, three, "best(1) = 0; asks(0) = 7; best(1) = 1; gallows(9); asks(1) = 0; best(1) = 2; asks(2) = 0; best(1) = 3",
            "asks(3); best(1) = NONE");
        b.test(23, letter, three, "gallows(9); asks(0); asks(5); asks(2); best(1) = 1; best(0) = 1");
        // By what was answered: 1 stands at another place of each of the two (and of none that has no 0).
        b.test(23, least, "word(w0122, 1); word(w0313, 1); word(w4441, 1); hide(0); best(0) = 0; best(1) = 1; word(w5555, 1); best(0) = 1",
            "best(1) = 1; asks(5); best(0) = 0");
    }

    private static void askedBy(Bounds b) {
        String says = "ASKED BY a SHEET: the ASKER whose NEXT of a GAME with HIDDEN, from an empty ASKED on, without GALLOWS, is another one at the fewest places k";
        String two = "word(w1122, 1); hide(0); asker(0, 0); asker(0, 3); asker(0, 2); asker(0, 2)";
        // NEXT of 0: 0 1 2; of 1: 3 0 1 2; of 2 and 3: 2 0 1.
        b.test(26, says, two, "sheet(0, 0, 3); askedBy(0, 0) = 0; askedBy(0, 1) = 2; mark(0, 0, 3); askedBy(0, 0) = 1; askedBy(0, 1) = 1",
            "mark(0, 2, 1); askedBy(0, 1) = 0",
            "gallows(1); asks(5); askedBy(0, 0) = 1; askedBy(0, 1) = 0; hide(0); asks(3); askedBy(0, 1) = 0");
        b.test(26, "(numbers alone; k-th NEXT, from 0 on;", two, "sheet(0, 1, 3); mark(0, 0, 2); mark(0, 1, NONE); mark(0, 2, 1)",
            "askedBy(0, 0) = 2; askedBy(0, 1) = 0",
            "mark(0, 0, NONE); mark(0, 2, NONE); askedBy(0, 0) = 0; askedBy(0, 1) = 0; mark(0, 2, -1); askedBy(0, 0) = 0; askedBy(0, 1) = 1");
        b.test(26, "where it is HAD already: any is another one);", two, "sheet(0, 0, 4); mark(0, 1, 1); mark(0, 2, 2); askedBy(0, 0) = 0",
            "askedBy(0, 1) = 1",
            "sheet(0, 1, 24); askedBy(0, 1) = 23; mark(0, 23, NONE); askedBy(0, 1) = 22; sheet(0, 0, 4); mark(0, 3, 2); askedBy(0, 0) = 1",
            "askedBy(0, 1) = 2",
            "mark(0, 3, -1); askedBy(0, 0) = 0; askedBy(0, 1) = 3",
            // The LETTERS that it would go on with, if it were not HAD.
            "sheet(0, 0, 6); mark(0, 1, 1); mark(0, 2, 2); mark(0, 3, 3); mark(0, 4, 4); mark(0, 5, 5); askedBy(0, 0) = 0; askedBy(0, 1) = 3");
        b.test(26, "any is another one); of several the least.", two, "sheet(0, 0, 0); askedBy(0, 0) = 0; sheet(0, 0, 1); mark(0, 0, 2)",
            "askedBy(0, 0) = 2; askedBy(0, 1) = 0; mark(0, 0, 5); askedBy(0, 0) = 0");
    }
}
