/** Promises 33 to 41: sheets, slots. */
public final class SheetsSlotsTest {
    private static final Due due = new Due("SheetsSlotsTest");

    public static void main(String[] args) {
        sheets();
        marksOfShorts();
        marksOfFloats();
        pours();
        reads();
        copies();
        copiesOverlap();
        lays();
        asksOfSlots();
        items();
        rests();
        due.end();
    }

    private static int placeOf(HangedWord x, int sheet, int place) {
        x.lay(4, 2, sheet);
        return x.item(4, place);
    }

    private static void sheets() {
        HangedWord x = new HangedWord();
        due.is(33, "sheet(4, 0, 1)", x.sheet(4, 0, 1), Due.BAD);
        due.is(33, "sheet(-1, 0, 1)", x.sheet(-1, 0, 1), Due.BAD);
        due.is(33, "sheet(0, 2, 1)", x.sheet(0, 2, 1), Due.BAD);
        due.is(33, "sheet(0, -2, 1)", x.sheet(0, -2, 1), Due.BAD);
        due.is(33, "sheet(0, 0, 25)", x.sheet(0, 0, 25), Due.BAD);
        due.is(33, "sheet(0, 1, MAX)", x.sheet(0, 1, Due.MAX), Due.BAD);
        due.is(33, "sheet(0, 0, -1)", x.sheet(0, 0, -1), Due.SIZE);
        due.is(33, "sheet(0, 1, MIN)", x.sheet(0, 1, Due.MIN), Due.SIZE);
        due.is(33, "sheet(4, 0, -1)", x.sheet(4, 0, -1), Due.BAD);
        due.is(33, "sheet(0, 2, -1)", x.sheet(0, 2, -1), Due.BAD);
        due.is(33, "still MISSING", x.mark(0, 0, 0), Due.NOTHING);
        due.is(33, "sheet(3, 0, 24)", x.sheet(3, 0, 24), 24);
        due.is(33, "its last place", x.mark(3, 23, 5), 1);
        due.is(33, "no more", x.mark(3, 24, 5), Due.INDEX);
        due.is(33, "refused", x.sheet(3, 1, -1), Due.SIZE);
        due.is(33, "as it was", placeOf(x, 3, 23), 5);
        due.is(33, "sheet(3, 1, 24)", x.sheet(3, 1, 24), 24);
        due.is(33, "all are 0", placeOf(x, 3, 23), 0);
        due.is(33, "of floats", x.mark(3, 0, 50000), 1);
        due.is(33, "sheet(2, 0, 0)", x.sheet(2, 0, 0), 0);
        due.is(33, "a row of no places", x.mark(2, 0, 0), Due.INDEX);
        due.is(33, "MISSING, n any", x.sheet(3, -1, 77), 0);
        due.is(33, "MISSING", x.mark(3, 0, 0), Due.NOTHING);
        due.is(33, "MISSING, n any", x.sheet(2, -1, -77), 0);
        due.is(33, "MISSING", x.mark(2, 0, 0), Due.NOTHING);
        due.is(33, "made again", x.sheet(3, 0, 1), 1);
        due.is(33, "it is 0", placeOf(x, 3, 0), 0);
    }

    private static void marksOfShorts() {
        HangedWord x = new HangedWord();
        x.sheet(0, 0, 3);
        int[] told = {5, -5, 32767, 32768, 65535, 65536, -32768, -32769, 100000, Due.MAX, Due.MIN};
        int[] want = {5, -5, 32767, -32768, -1, 0, -32768, 32767, -31072, -1, 0};
        for (int i = 0; i < told.length; i++) {
            due.is(34, "mark(0, 1, " + told[i] + ")", x.mark(0, 1, told[i]), 1);
            due.is(34, "its lowest 16 bits", placeOf(x, 0, 1), want[i]);
        }
        due.is(34, "place 3", x.mark(0, 3, 1), Due.INDEX);
        due.is(34, "place -1", x.mark(0, -1, 1), Due.INDEX);
        due.is(34, "place MAX", x.mark(0, Due.MAX, Due.NONE), Due.INDEX);
        due.is(34, "NONE in shorts", x.mark(0, 1, Due.NONE), Due.KIND);
        due.is(34, "as it was", placeOf(x, 0, 1), 0);
        due.is(34, "others", placeOf(x, 0, 2), 0);
        due.is(34, "sheet 4", x.mark(4, 0, 1), Due.BAD);
        due.is(34, "sheet -1", x.mark(-1, 0, 1), Due.BAD);
        due.is(34, "MISSING", x.mark(1, 9, Due.NONE), Due.NOTHING);
    }

    private static void marksOfFloats() {
        HangedWord x = new HangedWord();
        x.sheet(1, 1, 2);
        due.is(34, "99999", x.mark(1, 0, 99999), 1);
        due.is(34, "99999 is there", placeOf(x, 1, 0), 99999);
        due.is(34, "-99999", x.mark(1, 0, -99999), 1);
        due.is(34, "-99999 is there", placeOf(x, 1, 0), -99999);
        due.is(34, "100000", x.mark(1, 0, 100000), Due.BAD);
        due.is(34, "-100000", x.mark(1, 0, -100000), Due.BAD);
        due.is(34, "MIN", x.mark(1, 0, Due.MIN), Due.BAD);
        due.is(34, "INDEX stands first", x.mark(1, 2, 100000), Due.INDEX);
        due.is(34, "as it was", placeOf(x, 1, 0), -99999);
        due.is(34, "NO NUMBER", x.mark(1, 0, Due.NONE), 1);
        due.is(34, "it is none", placeOf(x, 1, 0), Due.KIND);
        due.is(34, "a number again", x.mark(1, 0, 3), 1);
        due.is(34, "3", placeOf(x, 1, 0), 3);
    }

    private static void pours() {
        HangedWord x = new HangedWord();
        due.is(35, "pour(4)", x.pour(4), Due.BAD);
        due.is(35, "pour(-1)", x.pour(-1), Due.BAD);
        due.is(35, "pour(0)", x.pour(0), Due.NOTHING);
        x.sheet(0, 1, 5);
        due.is(35, "no WORDS", x.pour(0), 0);
        for (int word = 0; word < 7; word++) {
            x.word(word, 10 + word);
        }
        int[] row = {10, Due.NONE, 0, 100, -7};
        int[] weights = {10, 11, 1, 99, 1, 15, 16};
        for (int place = 0; place < 5; place++) {
            x.mark(0, place, row[place]);
        }
        due.is(35, "three are otherwise", x.pour(0), 3);
        for (int word = 0; word < 7; word++) {
            due.is(35, "WEIGHT of " + word, x.wordTold(word, 1), weights[word]);
        }
        due.is(35, "again", x.pour(0), 0);
        x.sheet(1, 0, 24);
        x.mark(1, 0, 98);
        x.mark(1, 23, 5);
        due.is(35, "of shorts, more than there are WORDS", x.pour(1), 5);
        due.is(35, "WEIGHT of 0", x.wordTold(0, 1), 98);
        due.is(35, "WEIGHT of 6", x.wordTold(6, 1), 1);
        x.sheet(2, 0, 0);
        due.is(35, "no places", x.pour(2), 0);
    }

    private static void reads() {
        HangedWord x = new HangedWord();
        due.is(36, "reads(4, 0)", x.reads(4, 0), Due.BAD);
        due.is(36, "no ASKER", x.reads(0, 0), Due.BAD);
        x.asker(0, 5);
        x.word(Due.row(0, 0, 1, 2), 10);
        x.word(Due.row(0, 1, 1, 3), 20);
        x.word(Due.row(4, 4, 4, 5), 3);
        due.is(36, "reads(-1, 0)", x.reads(-1, 0), Due.BAD);
        due.is(36, "reads(0, 1)", x.reads(0, 1), Due.BAD);
        due.is(36, "reads(0, -1)", x.reads(0, -1), Due.BAD);
        due.is(36, "MISSING", x.reads(0, 0), Due.NOTHING);
        x.sheet(0, 1, 5);
        due.is(36, "the first", x.reads(0, 0), 0);
        x.mark(0, 0, 1);
        x.mark(0, 1, 2);
        due.is(36, "the third", x.reads(0, 0), 2);
        x.mark(0, 2, 4);
        due.is(36, "no WORD: all numbers are not", x.reads(0, 0), 3);
        x.mark(0, 3, Due.NONE);
        due.is(36, "numbers alone", x.reads(0, 0), 4);
        x.mark(0, 4, Due.NONE);
        due.is(36, "there is none", x.reads(0, 0), Due.NONE);
        x.mark(0, 1, Due.NONE);
        due.is(36, "there is none", x.reads(0, 0), Due.NONE);
        x.sheet(1, 0, 0);
        due.is(36, "no places", x.reads(1, 0), Due.NONE);
    }

    private static void fill(HangedWord x, int sheet, int sort, int n, int from) {
        x.sheet(sheet, sort, n);
        for (int place = 0; place < n; place++) {
            x.mark(sheet, place, from + place);
        }
    }

    private static void sameRow(HangedWord x, int promise, int sheet, int... row) {
        x.lay(4, 2, sheet);
        for (int place = 0; place < row.length; place++) {
            due.is(promise, "place " + place + " of sheet " + sheet, x.item(4, place), row[place]);
        }
        due.is(promise, "behind sheet " + sheet, x.item(4, row.length), Due.INDEX);
    }

    private static void copies() {
        HangedWord x = new HangedWord();
        fill(x, 0, 0, 4, 1);
        fill(x, 1, 0, 3, 11);
        fill(x, 2, 1, 3, 21);
        due.is(37, "copy(4, ..)", x.copy(4, 0, 0, 0, 1), Due.BAD);
        due.is(37, "copy(.., -1, ..)", x.copy(0, 0, -1, 0, 1), Due.BAD);
        due.is(37, "copy(-1, 0, 3, ..)", x.copy(-1, 0, 3, 0, 1), Due.BAD);
        due.is(37, "from MISSING", x.copy(3, 0, 0, 0, 1), Due.NOTHING);
        due.is(37, "to MISSING", x.copy(0, 9, 3, 0, 1), Due.NOTHING);
        due.is(37, "of two sorts", x.copy(0, 0, 2, 0, 1), Due.KIND);
        due.is(37, "of two sorts, no such place", x.copy(2, 9, 0, 9, 9), Due.KIND);
        due.is(37, "of two sorts, none", x.copy(2, 0, 0, 0, 0), Due.KIND);
        int[][] wrong = {{-1, 0, 1}, {0, -1, 1}, {0, 0, -1}, {4, 0, 1}, {0, 3, 1}, {2, 0, 3}, {0, 1, 3}, {5, 0, 0}, {0, 4, 0},
            {0, 0, 4}, {1, 1, Due.MAX}, {Due.MAX, 0, 1}, {0, Due.MAX, 1}, {Due.MAX, Due.MAX, Due.MAX}, {0, 0, Due.MIN}, {Due.MIN, 0, 0}};
        for (int[] w : wrong) {
            due.is(37, "copy(0, " + w[0] + ", 1, " + w[1] + ", " + w[2] + ")", x.copy(0, w[0], 1, w[1], w[2]), Due.INDEX);
        }
        sameRow(x, 37, 0, 1, 2, 3, 4);
        sameRow(x, 37, 1, 11, 12, 13);
        due.is(37, "none", x.copy(0, 4, 1, 3, 0), 0);
        due.is(37, "two", x.copy(0, 2, 1, 0, 2), 2);
        sameRow(x, 37, 1, 3, 4, 13);
        sameRow(x, 37, 0, 1, 2, 3, 4);
        due.is(37, "all", x.copy(1, 0, 0, 1, 3), 3);
        sameRow(x, 37, 0, 1, 3, 4, 13);
        x.mark(2, 1, Due.NONE);
        fill(x, 3, 1, 2, 0);
        due.is(37, "floats", x.copy(2, 0, 3, 0, 2), 2);
        sameRow(x, 37, 3, 21, Due.KIND);
    }

    private static void copiesOverlap() {
        HangedWord x = new HangedWord();
        fill(x, 0, 0, 5, 1);
        due.is(37, "forwards", x.copy(0, 0, 0, 1, 4), 4);
        sameRow(x, 37, 0, 1, 1, 2, 3, 4);
        fill(x, 0, 0, 5, 1);
        due.is(37, "backwards", x.copy(0, 1, 0, 0, 4), 4);
        sameRow(x, 37, 0, 2, 3, 4, 5, 5);
    }

    private static void lays() {
        HangedWord x = new HangedWord();
        due.is(38, "lay(5, 0, 0)", x.lay(5, 0, 0), Due.BAD);
        due.is(38, "lay(-1, 0, 0)", x.lay(-1, 0, 0), Due.BAD);
        due.is(38, "lay(0, 4, 0)", x.lay(0, 4, 0), Due.BAD);
        due.is(38, "lay(0, -1, 0)", x.lay(0, -1, 0), Due.BAD);
        due.is(38, "no such ASKER", x.lay(0, 1, 0), Due.BAD);
        due.is(38, "ASKER -1", x.lay(0, 1, -1), Due.BAD);
        due.is(38, "SHEET 4", x.lay(0, 2, 4), Due.BAD);
        due.is(38, "SHEET -1", x.lay(0, 2, -1), Due.BAD);
        due.is(38, "MISSING", x.lay(0, 2, 3), Due.NOTHING);
        x.asker(0, 3);
        x.sheet(0, 0, 1);
        due.is(38, "nothing, k any", x.lay(0, 0, Due.MIN), 0);
        due.is(38, "an ASKER", x.lay(0, 1, 0), 0);
        due.is(38, "refused", x.lay(0, 2, 1), Due.NOTHING);
        due.is(38, "refused", x.lay(0, 1, 1), Due.BAD);
        due.is(38, "it holds the ASKER", x.ask(0, 0), 3);
        due.is(38, "a SHEET", x.lay(0, 2, 0), 1);
        due.is(38, "a number", x.lay(0, 3, Due.MAX), 2);
        due.is(38, "nothing", x.lay(0, 0, 5), 3);
        due.is(38, "the last SLOT", x.lay(4, 3, 7), 0);
        due.is(38, "others hold nothing", x.rest(3, 1), Due.NOTHING);
        due.is(38, "nothing is held", x.rest(0, 1), Due.NOTHING);
        x.lay(1, 2, 0);
        x.mark(0, 0, 9);
        due.is(38, "a row of its own", x.item(1, 0), 0);
        x.sheet(0, -1, 0);
        due.is(38, "it stays", x.item(1, 0), 0);
        x.lay(2, 1, 0);
        x.turns(0, 5);
        x.first(0, 1);
        due.is(38, "an ASKER as it was", x.ask(2, 0), 3);
    }

    private static void asksOfSlots() {
        HangedWord x = new HangedWord();
        x.asker(0, 2);
        due.is(39, "ask(5, 0)", x.ask(5, 0), Due.BAD);
        due.is(39, "ask(-1, 0)", x.ask(-1, 0), Due.BAD);
        due.is(39, "ask(0, 6)", x.ask(0, 6), Due.BAD);
        due.is(39, "ask(0, -1)", x.ask(0, -1), Due.BAD);
        due.is(39, "nothing", x.ask(0, 5), Due.NOTHING);
        int[] worths = {2, 12, 48, 24, 42, 1};
        int[] above = {1, 1 | 2, 1 | 4, 1 | 2 | 8, 1 | 4 | 16, 1 | 32};
        for (int kind = 0; kind < 6; kind++) {
            x.turns(0, kind);
            x.lay(0, 1, 0);
            for (int as = 0; as < 6; as++) {
                due.is(39, kind + " as " + as, x.ask(0, as), (above[kind] >> as & 1) == 1 ? worths[kind] : Due.KIND);
            }
        }
        x.lay(0, 3, 0);
        due.is(39, "a number", x.ask(0, 0), Due.KIND);
        x.sheet(0, 0, 1);
        x.lay(0, 2, 0);
        due.is(39, "a SHEET", x.ask(0, 0), Due.KIND);
        due.is(39, "a SHEET, wrong", x.ask(0, 6), Due.BAD);
    }

    private static void items() {
        HangedWord x = new HangedWord();
        due.is(40, "item(5, 0)", x.item(5, 0), Due.BAD);
        due.is(40, "item(-1, 0)", x.item(-1, 0), Due.BAD);
        due.is(40, "nothing", x.item(0, -1), Due.NOTHING);
        x.asker(0, 0);
        x.lay(0, 1, 0);
        due.is(40, "an ASKER", x.item(0, 0), Due.KIND);
        x.lay(0, 3, 0);
        due.is(40, "a number", x.item(0, 9), Due.KIND);
        x.sheet(0, 1, 2);
        x.mark(0, 0, -7);
        x.mark(0, 1, Due.NONE);
        x.lay(0, 2, 0);
        due.is(40, "item(0, 0)", x.item(0, 0), -7);
        due.is(40, "NO NUMBER", x.item(0, 1), Due.KIND);
        due.is(40, "item(0, 2)", x.item(0, 2), Due.INDEX);
        due.is(40, "item(0, -1)", x.item(0, -1), Due.INDEX);
        due.is(40, "item(0, MAX)", x.item(0, Due.MAX), Due.INDEX);
        x.sheet(1, 0, 0);
        x.lay(0, 2, 1);
        due.is(40, "no places", x.item(0, 0), Due.INDEX);
        x.sheet(1, 0, 24);
        x.lay(0, 2, 1);
        due.is(40, "places that are 0", x.item(0, 23), 0);
    }

    private static void rests() {
        HangedWord x = new HangedWord();
        due.is(41, "rest(5, 1)", x.rest(5, 1), Due.BAD);
        due.is(41, "rest(-1, 0)", x.rest(-1, 0), Due.BAD);
        due.is(41, "nothing", x.rest(0, 0), Due.NOTHING);
        x.asker(0, 0);
        x.sheet(0, 0, 1);
        x.lay(0, 1, 0);
        due.is(41, "an ASKER", x.rest(0, 0), Due.KIND);
        x.lay(0, 2, 0);
        due.is(41, "a SHEET", x.rest(0, 1), Due.KIND);
        int[][] rests = {{11, 4, 3}, {-11, 4, -3}, {11, -4, 3}, {-11, -4, -3}, {0, 5, 0}, {Due.MIN, -1, 0}, {Due.MAX, 10, 7}, {3, 4, 3}};
        for (int[] r : rests) {
            x.lay(0, 3, r[0]);
            due.is(41, "the rest of " + r[0] + " by " + r[1], x.rest(0, r[1]), r[2]);
            due.is(41, "by 0", x.rest(0, 0), Due.NO);
        }
    }
}
