/** Promises 19 to 27: what will be. */
final class BoundsAhead {
    /** LINES by asker 0: 1, 2, 4; by asker 1: 1, 0, 4. */
    private static final String THREE = "word(w0012, 10); word(w0113, 20); word(w4445, 3); asker(0, 5); asker(1, 0)";

    private BoundsAhead() {
    }

    static void run(Bounds b) {
        lines(b);
        worst(b);
        even(b);
        open(b);
        best(b);
        sure(b);
        behind(b);
        askedBy(b);
        fine(b);
    }

    private static void lines(Bounds b) {
        String says = "LINES of a WORD by an ASKER. BAD.";
        b.test(19, says, THREE, "lines(0, 0) = 1; lines(1, 0) = 2; lines(2, 0) = 4; lines(0, 1) = 1; lines(1, 1) = 0; lines(2, 1) = 4");
        b.bound(19, says, THREE, "lines(?, 0)", 0, 2);
        b.bound(19, says, THREE, "lines(0, ?)", 0, 1);
        b.test(19, says, "lines(0, 0) = BAD; word(0, 1); lines(0, 0) = BAD; asker(0, 0); lines(0, 0) = 0; lines(1, 0) = BAD",
            "lines(0, 1) = BAD; lines(1, 1) = BAD; lines(-1, -1) = BAD");
        b.test(19, says, "asker(0, 0); lines(0, 0) = BAD; 11 * word(0, 1); word(w5555, 1); 6 * asker(0, 0); asker(0, 5); lines(11, 0) = 5",
            "lines(11, 7) = 0; lines(12, 7) = BAD; lines(11, 8) = BAD");
    }

    private static void worst(Bounds b) {
        String says = "WORST of an ASKER: what 0 the WORD, 1 LINES. BAD; NONE: there are no WORDS.";
        b.test(20, says, THREE, "worst(0, 0) = 2; worst(0, 1) = 4; worst(1, 0) = 2; worst(1, 1) = 4");
        b.bound(20, says, THREE, "worst(?, 0)", 0, 1);
        b.bound(20, says, THREE, "worst(1, ?)", 0, 1);
        b.test(20, says, "worst(0, 0) = BAD; asker(0, 0); worst(0, 0) = NONE; worst(0, 1) = NONE; worst(0, 2) = BAD; worst(0, -1) = BAD",
            "worst(1, 0) = BAD; worst(-1, 0) = BAD; worst(1, 2) = BAD",
            "word(0, 1); worst(0, 0) = 0; worst(0, 1) = 0; worst(1, 1) = BAD");
    }

    private static void even(Bounds b) {
        String says = "EVEN for an ASKER. BAD; NONE: none of them.";
        b.test(21, says, THREE, "even(0) = 3; even(1) = 1; weigh(2, 30); even(0) = 3; weigh(2, 31); even(0) = 5");
        // FREQUENT: 0 1 4 5 3 2 by these WEIGHTS, LINES 3, 2, 2; with one more 0 4 5 1 3 2, LINES 3, 2, 1.
        b.test(21, says, THREE, "weigh(2, 30); even(1) = 3; weigh(2, 31); even(1) = 2");
        b.bound(21, says, THREE, "even(?)", 0, 1);
        // Nobody needs more than 5 LINES, so that there is always one.
        b.test(21, says, "even(0) = BAD; asker(0, 0); even(0) = 1; 12 * word(w5555, 99); even(0) = 6; first(0, 5); even(0) = 1; even(1) = BAD");
    }

    private static void open(Bounds b) {
        String says = "OPEN LINES of an ASKER. BAD.";
        b.test(22, says, THREE, "open(0) = 2; open(1) = 0; gallows(2); open(0) = 2; gallows(1); open(0) = 1; open(1) = 0");
        b.bound(22, says, THREE, "open(?)", 0, 1);
        b.test(22, says, "open(0) = BAD; asker(0, 0); open(0) = 0; open(1) = BAD; 12 * word(w5555, 99); open(0) = 5");
    }

    private static void best(Bounds b) {
        String says = "BEST: what 0 LINES, 1 the LETTER (NONE). BAD.";
        b.test(23, says, "best(0) = 0; best(1) = NONE; word(w1111, 1); word(w2222, 1); hide(0); best(0) = 1; best(1) = 1; asks(0)",
            "best(0) = 1; best(1) = 1; asks(2); best(0) = 0; best(1) = 1; asks(1); best(1) = NONE");
        b.bound(23, says, "word(w1111, 1); word(w2222, 1); hide(0)", "best(?)", 0, 1);
        b.bound(23, says, "", "best(?)", 0, 1);
    }

    private static void sure(Bounds b) {
        b.test(24, "SURE, as a set.", "sure() = 0; word(w5432, 1); sure() = 0; hide(0); sure() = 60; asks(5); sure() = 28; asks(0)",
            "sure() = 28; word(w0100, 1); sure() = 28; word(w5442, 1); sure() = 20");
        b.test(24, "SURE, as a set.", "word(w0000, 1); hide(0); sure() = 1; asks(0); sure() = 0; gallows(1); hide(0); asks(1); game(5) = 1",
            "sure() = 1");
    }

    private static void behind(Bounds b) {
        String says = "BEHIND n (1 .. 30) CHOOSINGS and PLAYS by an ASKER: what 0 how many were HUNG, 1 LINES of all. BAD.";
        b.test(25, says, "asker(0, 0); asker(0, 5); word(w5555, 7)", "behind(0, 1, 0) = 0; behind(0, 1, 1) = 5; behind(0, 30, 1) = 150",
            "behind(1, 30, 1) = 0; gallows(5); behind(0, 30, 0) = 30; behind(0, 30, 1) = 150",
            "gallows(4); behind(0, 30, 1) = 120; behind(0, 29, 0) = 29; behind(1, 30, 0) = 0; text 'draw 0'; behind(0, 30, 0) = 0",
            "behind(0, 30, 1) = 0");
        b.test(25, says, "asker(0, 0); behind(0, 1, 0) = 0; behind(0, 30, 1) = 0; word(w5555, 1); hide(0); gallows(1); asks(0)",
            "behind(0, 2, 0) = 2; behind(0, 2, 1) = 2");
        // By the last WORD, ASKER, TEXT that there can be; by WEIGHTS of the last WORD.
        b.test(25, says, "11 * word(w0000, 1); word(w5555, 99); 7 * asker(0, 5); asker(0, 0); seed(d109); behind(7, 1, 1) = 5; seed(d10)",
            "behind(7, 1, 1) = 0",
            "13 * text 'fine 1'; text 'draw n=11'; behind(7, 1, 1) = 5; behind(6, 1, 1) = 0; behind(7, 9, 1) = 45");
        b.bound(25, says, THREE, "behind(?, 5, 1)", 0, 1);
        b.bound(25, says, THREE, "behind(1, ?, 0)", 1, 30);
        b.bound(25, says, THREE, "behind(1, 5, ?)", 0, 1);
        b.test(25, says, "behind(0, 1, 0) = BAD; asker(0, 0); behind(1, 31, 0) = BAD; behind(0, 0, 2) = BAD; behind(-1, 5, -1) = BAD",
            "behind(0, 5, 0) = 0");
    }

    private static void askedBy(Bounds b) {
        String says = "ASKED BY a SHEET: what 0 the ASKER, 1 at how many places another one. BAD; NOTHING; NO: no HIDDEN; NONE: there are no ASKERS.";
        String all = "sheet(0, 0, 3); sheet(3, 1, 2); word(w0123, 1); asker(0, 5); asker(0, 0); hide(0)";
        b.test(26, says, all, "askedBy(0, 0) = 0; askedBy(0, 1) = 2; mark(0, 1, 1); mark(0, 2, 2); askedBy(0, 0) = 1; askedBy(0, 1) = 0",
            "mark(0, 0, 5); mark(0, 1, 0); askedBy(0, 0) = 0; askedBy(0, 1) = 1");
        b.bound(26, says, all + "; sheet(1, 0, 0); sheet(2, 0, 1)", "askedBy(?, 0)", 0, 3);
        b.bound(26, says, all, "askedBy(3, ?)", 0, 1);
        // Each by itself.
        b.test(26, says, all, "askedBy(1, 0) = NOTHING; askedBy(2, 1) = NOTHING; text 'draw 0'; choose() = NONE; askedBy(0, 0) = NO",
            "askedBy(0, 1) = NO");
        b.test(26, says, "sheet(0, 0, 3); word(0, 1); hide(0); askedBy(0, 0) = NONE; askedBy(0, 1) = NONE");
        // Two at once: BAD, NOTHING, NO, NONE, in this order.
        b.test(26, says, "word(0, 1); asker(0, 0); hide(0); askedBy(4, 2) = BAD; askedBy(0, 2) = BAD; askedBy(0, -1) = BAD",
            "askedBy(-1, 0) = BAD; askedBy(0, 0) = NOTHING");
        b.test(26, says, "word(0, 1); asker(0, 0); askedBy(4, 0) = BAD; askedBy(0, 2) = BAD; askedBy(0, 0) = NOTHING; sheet(0, 0, 1)",
            "askedBy(0, 2) = BAD; askedBy(4, 0) = BAD; askedBy(0, 0) = NO");
        b.test(26, says, "askedBy(4, 0) = BAD; askedBy(0, 2) = BAD; askedBy(0, 0) = NOTHING; sheet(0, 0, 1); askedBy(0, 0) = NO",
            "askedBy(0, 2) = BAD; asker(0, 0); askedBy(0, 0) = NO",
            "word(0, 1); askedBy(0, 0) = NO; hide(0); askedBy(0, 0) = 0; askedBy(0, 1) = 0; sheet(0, -1, 0); askedBy(0, 0) = NOTHING");
        b.test(26, says, "word(0, 1); hide(0); askedBy(0, 0) = NOTHING; askedBy(0, 2) = BAD; sheet(0, 1, 1); askedBy(0, 2) = BAD",
            "askedBy(4, 1) = BAD; askedBy(0, 1) = NONE; asker(0, 0); askedBy(0, 1) = 0");
    }

    private static void fine(Bounds b) {
        b.test(27, "What fine gives.", "fine() = 0; word(w0000, 1); hide(0); asks(1); asks(2); fine() = 2; text 'fine l*100+k'; fine() = 202",
            "asks(0); fine() = 203; text 'fine 0-1'; fine() = -1");
        b.test(27, "What fine gives.", "text 'fine l*9+k'; fine() = 0; text 'fine 4096*4096*128-1'; fine() = MAX; text 'fine 4096*4096*128'",
            "fine() = MIN; text 'ask 5'; fine() = MIN; text 'fine 0'; fine() = 0");
    }
}
