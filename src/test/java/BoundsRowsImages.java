/** What part 5 of "Terms" says of images, and promises 42 to 46: rows, images. */
final class BoundsRowsImages {
    /** Each draw is WORD 0 or 1, by its rest by 2; asker 0 needs 0 or 5 LINES, asker 1 needs 1 or none. */
    private static final String TWO = "word(w0000, 1); word(w5555, 1); asker(0, 0); asker(0, 5)";

    private BoundsRowsImages() {
    }

    static void run(Bounds b) {
        image(b);
        gamesTold(b);
        tell(b);
        check(b);
        checkHowMany(b);
        checkRefused(b);
        keep(b);
        back(b);
        count(b);
    }

    /** THE GAMES TOLD by asker 0 of n CHOOSINGS from this z on, as steps that tell them. */
    private static String told(int z, int n, int gallows) {
        StringBuilder steps = new StringBuilder();
        int at = z;
        for (int i = 0; i < n; i++) {
            at = Due.nextZ(at);
            int word = (at >>> 8) % 2;
            steps.append("tell(").append(word).append("); tell(").append(Math.min(gallows, 5 * word)).append("); ");
        }
        return steps.toString();
    }

    private static void image(Bounds b) {
        String says = "AN IMAGE keeps all but SHEETS, SLOTS, numbers that wait, THE TAPE; all can become as it is (again and again).";
        String state = TWO + "; hide(1); asks(2); asks(5); gallows(4); seed(77); text 'fine k*7'; text 'ask 5'; text 'draw n'; keep()";
        String change = "; word(w0123, 9); weigh(0, 50); asker(3, 3); turns(0, 4); first(1, 0); hide(0); asks(1); asks(2); asks(3)"
            + "; gallows(9); seed(5)"
            + "; text 'fine 1'; text 'ask 6'; text 'draw 3'; ";
        String same = "back() = 2; count(0) = 2; wordTold(0, 1) = 1; count(1) = 2; told(0, 0) = 0; told(1, 1) = 5; game(0) = 1; game(1) = 36"
            + "; game(2) = 1; count(4) = 4; count(8) = 77; count(5) = 3;"
            + " why(0) = 1; why(1) = 2; why(2) = 0; fine() = 14; score(0, 0) = 5; textTold(3, 0) = BAD; word(w0505, 3) = 2"
            + "; wordTold(2, 0) = " + Due.row(0, 5, 0, 5) + "; text 'fine 8' = 3; fine() = 8; back() = 2";
        b.test(45, says, state + change + same + change + same);
        // The last of each, too.
        String full = "11 * word(w0000, 5); word(w5555, 6); 7 * asker(0, 0); asker(0, 1); 13 * text 'ask f'; text 'draw n=11'; keep()";
        b.test(45, says, full, "weigh(11, 9); turns(7, 4); first(7, 3); back() = 12; wordTold(11, 1) = 6; told(7, 0) = 0; told(7, 1) = 1",
            "textTold(13, 0) = 1; why(1) = 13; why(0) = 12; choose() = 11; play(7) = 5; back(); hide(11); asks(5) = 15; game(4) = 1");
        b.test(45, says, "sheet(0, 0, 1); mark(0, 0, 5); lay(0, 3, 5); lay(1, 2, 0); tell(5); tape 'fine 5'; keep()",
            "mark(0, 0, 6); sheet(1, 1, 2); lay(0, 3, 6); lay(2, 3, 9); tell(6); feed(1, 2, 3); back() = 0; lay(3, 2, 0); item(3, 0) = 6",
            "item(1, 0) = 5; lay(3, 2, 1); item(3, 1) = 0; rest(0, 10) = 6; rest(2, 10) = 9; count(6) = 2; count(7) = 18");
        b.test(45, says, "keep(); word(0, 1); asker(0, 0); hide(0); text 'fine 3'; back() = 0; count(0) = 0; count(1) = 0; game(0) = NONE",
            "count(5) = 0; fine() = 0; back() = 0");
        b.test(45, says, "12 * word(0, 7); 8 * asker(5, 5); 14 * text 'fine 9'; seed(MIN); keep(); back() = 12; word(0, 1) = FULL",
            "asker(0, 0) = FULL; text 'fine 9' = FULL; seed(0) = MIN; back() = 12; count(8) = MIN");
    }

    private static void gamesTold(Bounds b) {
        String says = "THE GAMES TOLD by an ASKER: of n CHOOSINGS and PLAYS by it, one behind the other, by THE IMAGE: which WORD is HIDDEN (-1: none); LINES, behind each.";
        b.test(43, says, TWO + "; seed(4711)",
            "keep(); " + told(4711, 20, 6) + "check(0, 20) = 0; " + told(4711, 1, 6) + "check(0, 1) = 0; " + told(4711, 7, 6) + "check(0, 7) = 0");
        b.test(43, says, TWO + "; gallows(5); seed(3); keep(); gallows(9); " + told(3, 6, 5) + "check(0, 6) = 0; gallows(3); keep()",
            "gallows(9); " + told(3, 6, 3) + "check(0, 6) = 0");
        // By THE IMAGE, not as it is now: z, WEIGHTS, WORDS, the ASKER, TEXTS, the GAME.
        b.test(43, says, TWO + "; seed(9); keep(); seed(8); weigh(0, 99); word(0, 99); turns(0, 5); first(0, 3); text 'draw n'; text 'ask n'",
            "hide(1); asks(0); " + told(9, 8, 6) + "check(0, 8) = 0; count(8) = 8; game(1) = 1");
        b.test(43, says, TWO + "; text 'draw 0'; hide(1); asks(0); keep(); text 'draw 1'; tell(-1); tell(0); tell(-1); tell(0)",
            "check(0, 2) = 0; tell(-1); tell(1); check(0, 1) = 2; tell(NONE); tell(0); check(0, 1) = 1");
        // The last WORD, ASKER, TEXT that there can be.
        b.test(43, says, "11 * word(w0000, 5); word(w5555, 6); 7 * asker(0, 5); asker(0, 0); 13 * text 'fine 1'; text 'draw n=11'; keep()",
            "weigh(11, 1); turns(7, 5); tell(11); tell(5); tell(11); tell(5); check(7, 2) = 0; tell(11); tell(0); check(6, 1) = 0");
        b.test(43, says, "asker(0, 0); keep(); tell(-1); tell(0); check(0, 1) = 0; tell(0); tell(0); check(0, 1) = 1; tell(-1); check(0, 1) = 2");
    }

    private static void tell(Bounds b) {
        b.test(42, "One more number waits: how many.", "tell(5) = 1; tell(MIN) = 2; tell(MAX) = 3; tell(BAD) = 4; tell(0) = 5; count(6) = 5",
            "check(0, 0) = BAD; tell(0) = 1");
        b.test(42, "FULL: 60 wait.", "58 * tell(1); tell(1) = 59; tell(1) = 60; tell(1) = FULL; tell(1) = FULL; count(6) = 60",
            "check(0, 1) = NO; tell(7) = 1; count(6) = 1");
    }

    private static void check(Bounds b) {
        String says = "The numbers that wait (none do then, whatever is answered) are THE GAMES TOLD by an ASKER, of n (1 .. 20), two by two: 0;";
        for (int n : new int[] {1, 2, 19, 20}) {
            b.test(43, says, TWO + "; seed(31); keep(); " + told(31, n, 6) + "check(0, " + n + ") = 0; count(6) = 0; check(0, " + n + ") = 1");
        }
        b.test(43, says, TWO + "; seed(31); keep(); seed(d0); keep(); tell(0); tell(0); check(0, 1) = 0; tell(0); tell(1); check(1, 1) = 0",
            "seed(d1); keep(); tell(1); tell(5); check(0, 1) = 0; tell(1); tell(0); check(1, 1) = 0");
        b.test(43, "(none do then, whatever is answered)", TWO + "; tell(1); check(0, 0) = BAD; count(6) = 0; tell(1); check(0, 1) = NO",
            "count(6) = 0; seed(d1); keep(); tell(1); tell(5); check(0, 1) = 0; count(6) = 0; tell(1); check(0, 1) = 2; count(6) = 0",
            "check(0, 1) = 1");
        String right = "else 1 and how many stand right ahead of the first that is not (or is missing, or one too many).";
        String[] all = told(31, 20, 6).split("; ");
        for (int wrong = 0; wrong < 40; wrong += wrong < 4 || wrong > 34 ? 1 : 5) {
            String ahead = String.join("; ", java.util.Arrays.copyOf(all, wrong)) + (wrong == 0 ? "" : "; ");
            b.test(43, right, TWO + "; seed(31); keep(); " + ahead + "tell(9)",
            "check(0, 20) = " + (1 + wrong) + "; " + ahead + "check(0, 20) = " + (1 + wrong));
        }
        b.test(43, right, TWO + "; seed(31); keep(); " + told(31, 20, 6) + "tell(0); check(0, 20) = 41; " + told(31, 2, 6) + "tell(0)",
            "check(0, 2) = 5; " + told(31, 3, 6) + "check(0, 2) = 5; " + told(31, 1, 6) + "check(0, 2) = 3");
        b.test(43, right, TWO + "; seed(31); keep(); 60 * tell(9); check(0, 20) = 1; " + told(31, 20, 6) + "20 * tell(9); count(6) = 60",
            "check(0, 20) = 41");
    }

    private static void checkHowMany(Bounds b) {
        String says = "of n (1 .. 20), two by two: 0;";
        for (int n : new int[] {-1, 0, Due.MIN, 21, 22, 276, Due.MAX}) {
            b.test(43, says, TWO + "; seed(31); keep(); " + told(31, 20, 6) + "count(6) = 40; check(0, " + n + ") = BAD; count(6) = 0");
        }
    }

    private static void checkRefused(Bounds b) {
        String says = "BAD: n, or an ASKER 0 .. 7 is not told; NO: there is no IMAGE, or the ASKER is not in it.";
        for (int asker : new int[] {-1, 8, 9, Due.MIN, Due.MAX}) {
            b.test(43, says, TWO + "; 6 * asker(0, 0); keep(); tell(1); check(" + asker + ", 1) = BAD; count(6) = 0");
            // Two at once: BAD stands first.
            b.test(43, says, TWO + "; tell(1); check(" + asker + ", 1) = BAD; tell(1); check(" + asker + ", 21) = BAD; check(0, 21) = BAD",
            "check(0, 0) = BAD; check(7, 0) = BAD");
        }
        b.test(43, says, "12 * word(0, 1); 8 * asker(0, 0); check(0, 1) = NO; check(7, 20) = NO; keep(); check(7, 20) = 1; check(0, 1) = 1",
            "check(8, 1) = BAD");
        b.test(43, says, "tell(1); check(0, 1) = NO; check(7, 1) = NO; check(8, 1) = BAD; keep(); check(0, 1) = NO; check(7, 20) = NO",
            "asker(0, 0); tell(1); check(0, 1) = NO; count(6) = 0; check(0, 21) = BAD; keep(); check(0, 1) = 1; check(1, 1) = NO; back()",
            "check(0, 1) = 1");
        // There now, but not in THE IMAGE.
        b.test(43, says, "keep(); asker(0, 0); check(0, 1) = NO; back() = 0; count(1) = 0; check(0, 1) = NO; asker(0, 0); keep()",
            "asker(0, 0); check(1, 1) = NO; check(0, 1) = 1; check(1, 0) = BAD");
    }

    private static void keep(Bounds b) {
        b.test(44, "AN IMAGE is kept: how many WORDS.", "keep() = 0; word(0, 1); keep() = 1; 11 * word(0, 1); keep() = 12; back() = 12",
            "count(0) = 12; keep() = 12");
        b.test(44, "AN IMAGE is kept: how many WORDS.", "back() = NO; word(0, 1); keep() = 1; weigh(0, 9); keep() = 1; weigh(0, 3)",
            "back() = 1; wordTold(0, 1) = 9; hide(0); keep(); game(0) = 0; count(6) = 0");
        b.test(44, "AN IMAGE is kept: how many WORDS.", "tell(1); feed(1, 2, 3); sheet(0, 0, 1); lay(0, 3, 1); keep() = 0; count(6) = 1",
            "count(7) = 12; pour(0) = 0; rest(0, 5) = 1");
    }

    private static void back(Bounds b) {
        String says = "All is as THE IMAGE: how many WORDS. NO: there is none.";
        b.test(45, says, "back() = NO; word(0, 1); back() = NO; count(0) = 1; keep(); word(0, 1); back() = 1; back() = 1; count(0) = 1",
            "2 * word(0, 1); keep(); back() = 3");
        b.test(45, says, TWO + "; hide(1); asks(5); seed(BAD); tell(1); feed(1, 2, 3); text 'ask 1'; sheet(0, 0, 2); lay(1, 1, 0); back() = NO");
    }

    private static void count(Bounds b) {
        String says = "How many: 0 WORDS, 1 ASKERS, 2 LETTERS that are ASKED, 3 LINES, 4 GALLOWS, 5 TEXTS, 6 numbers that wait, 7 bytes of THE TAPE, 8 z. BAD.";
        b.test(46, says, "count(0) = 0; count(1) = 0; count(2) = 0; count(3) = 0; count(4) = 6; count(5) = 0; count(6) = 0; count(7) = 0",
            "count(8) = 1");
        b.test(46, says, "12 * word(w5555, 1); 8 * asker(0, 0); gallows(9); hide(0); play(0); 14 * text 'ask 1'; 60 * tell(1)",
            "8 * feed(0, 0, 0); seed(MIN)",
            "count(0) = 12; count(1) = 8; count(2) = 6; count(3) = 5; count(4) = 9; count(5) = 14; count(6) = 60; count(7) = 96; count(8) = MIN");
        b.test(46, says, "word(w0123, 1); hide(0); asks(4); asks(0); asks(5); count(2) = 3; count(3) = 2; trim(0); feed(0, 0, 0); trim(7)",
            "count(7) = 7; seed(-3); count(8) = -3; gallows(1); count(4) = 1");
        b.bound(46, says, TWO, "count(?)", 0, 8);
    }
}
