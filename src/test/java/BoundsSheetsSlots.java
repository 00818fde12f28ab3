/** Part 5 of "Terms", and promises 33 to 41: sheets, slots. */
final class BoundsSheetsSlots {
    /** SHEET 0: shorts 1 2 3 4; 1: shorts 11 12 13; 2: floats 21, NO NUMBER, 23; 3 is MISSING. */
    private static final String ROWS = "sheet(0, 0, 4); mark(0, 0, 1); mark(0, 1, 2); mark(0, 2, 3); mark(0, 3, 4); sheet(1, 0, 3)"
            + "; mark(1, 0, 11); mark(1, 1, 12); mark(1, 2, 13);"
        + " sheet(2, 1, 3); mark(2, 0, 21); mark(2, 1, NONE); mark(2, 2, 23)";
    /** SLOT 0 holds nothing, 1 a SAFE of FIRST 4, 2 the SHEET of floats, 3 the number -11, 4 the SHEET 0. */
    private static final String SLOTS = ROWS + "; asker(0, 5); asker(3, 4); lay(1, 1, 1); lay(2, 2, 2); lay(3, 3, -11); lay(4, 2, 0)";

    private BoundsSheetsSlots() {
    }

    static void run(Bounds b) {
        sheetsAre(b);
        slotsHold(b);
        findings(b);
        sheet(b);
        markShorts(b);
        markFloats(b);
        markRefused(b);
        pour(b);
        reads(b);
        copy(b);
        copyRefused(b);
        lay(b);
        ask(b);
        item(b);
        rest(b);
    }

    /** What the places of a SHEET are, seen by the last SLOT. */
    private static String row(int sheet, String... places) {
        StringBuilder steps = new StringBuilder("lay(4, 2, " + sheet + ")");
        for (int place = 0; place < places.length; place++) {
            steps.append("; item(4, ").append(place).append(") = ").append(places[place]);
        }
        return steps.append("; item(4, ").append(places.length).append(") = INDEX").toString();
    }

    private static void sheetsAre(Bounds b) {
        String says = "SHEETS 0 .. 3 are rows of shorts (sort 0) or floats (1; whole numbers), with 0 to 24 places, or MISSING (at first).";
        b.bound(33, says, "", "sheet(?, 0, 1)", 0, 3);
        b.bound(33, says, "", "sheet(?, -1, 0)", 0, 3);
        b.bound(33, says, "", "sheet(1, ?, 2)", -1, 1);
        b.bound(33, says, "", "sheet(2, 0, ?)", 0, 24, "SIZE", "BAD");
        b.bound(33, says, "", "sheet(2, 1, ?)", 0, 24, "SIZE", "BAD");
        b.test(33, says, "pour(0) = NOTHING; pour(3) = NOTHING; sheet(0, 0, 0); pour(0) = 0; pour(1) = NOTHING; pour(3) = NOTHING",
            "sheet(3, 1, 24); pour(3) = 0");
        b.test(34, says, "sheet(0, 0, 24); mark(0, 23, 5) = 1; mark(0, 24, 5) = INDEX; sheet(0, 0, 1); mark(0, 0, 5) = 1",
            "mark(0, 1, 5) = INDEX; sheet(0, 0, 0); mark(0, 0, 5) = INDEX");
        b.test(34, "A place of floats may be NO NUMBER.", "sheet(0, 1, 2)",
            "mark(0, 1, NONE) = 1; " + row(0, "0", "KIND") + "; mark(0, 1, 0) = 1; " + row(0, "0", "0") + "; sheet(0, 0, 2)",
            "mark(0, 1, NONE) = KIND");
    }

    private static void slotsHold(Bounds b) {
        String says = "SLOTS 0 .. 4 each hold nothing (at first), an ASKER (as it is then, for good), a SHEET (a row of its own, as it was then), or a number.";
        b.bound(38, says, "", "lay(?, 3, 7)", 0, 4);
        b.test(40, says, "item(-1, 0) = BAD; item(0, 0) = NOTHING; item(1, 0) = NOTHING; item(2, 0) = NOTHING; item(3, 0) = NOTHING",
            "item(4, 0) = NOTHING; item(5, 0) = BAD");
        b.test(38, says, "lay(0, 3, 5); lay(4, 3, 6); rest(0, 9) = 5; rest(1, 9) = NOTHING; rest(3, 9) = NOTHING; rest(4, 9) = 6",
            "lay(0, 0, 0); rest(0, 9) = NOTHING; rest(4, 9) = 6");
        b.test(39, says, "asker(3, 4); lay(0, 1, 0); turns(0, 5); first(0, 1); ask(0, 3) = 28; keep(); back(); ask(0, 3) = 28; lay(1, 1, 0)",
            "ask(1, 5) = 1; ask(0, 1) = 28");
        b.test(39, says, "keep(); asker(3, 4); lay(0, 1, 0); back() = 0; count(1) = 0; ask(0, 3) = 28; lay(0, 1, 0) = BAD; asker(0, 0)",
            "ask(0, 3) = 28");
        b.test(40, says, "sheet(0, 1, 2); mark(0, 0, 5); lay(0, 2, 0); mark(0, 0, 6); item(0, 0) = 5; sheet(0, 0, 1); item(0, 1) = 0",
            "sheet(0, -1, 0); item(0, 0) = 5; item(0, 2) = INDEX; pour(0) = NOTHING");
        b.test(40, says, "sheet(0, 0, 1); lay(0, 2, 0); lay(1, 2, 0); mark(0, 0, 7); lay(1, 2, 0); item(0, 0) = 0; item(1, 0) = 7");
        b.test(41, says, "lay(0, 3, MIN); rest(0, MAX) = -1; lay(0, 3, MAX); rest(0, MAX) = 0; rest(0, 100000) = 83647; lay(0, 3, 0)",
            "rest(0, 5) = 0; lay(0, 3, NOTHING); rest(0, 100) = -11");
    }

    private static void findings(Bounds b) {
        b.test(34, "FINDINGS: NOTHING: a SHEET is MISSING, a SLOT holds nothing;", "mark(0, 0, 0) = NOTHING; pour(0) = NOTHING",
            "copy(0, 0, 1, 0, 0) = NOTHING; lay(0, 2, 0) = NOTHING; asker(0, 0); reads(0, 0) = NOTHING; askedBy(0, 0) = NOTHING");
        b.test(40, "FINDINGS: NOTHING: a SHEET is MISSING, a SLOT holds nothing;", "item(0, 0) = NOTHING; ask(0, 0) = NOTHING",
            "rest(0, 1) = NOTHING; lay(0, 3, 1); lay(0, 0, 0); item(0, 0) = NOTHING; ask(0, 0) = NOTHING; rest(0, 1) = NOTHING");
        b.test(40, "INDEX: there is no such place;", SLOTS, "item(4, -1) = INDEX; item(4, 0) = 1; item(4, 3) = 4; item(4, 4) = INDEX",
            "item(4, MAX) = INDEX; item(4, MIN) = INDEX");
        b.test(34, "INDEX: there is no such place;", ROWS, "mark(1, -1, 5) = INDEX; mark(1, 0, 5) = 1; mark(1, 2, 5) = 1",
            "mark(1, 3, 5) = INDEX; mark(1, MAX, 5) = INDEX; mark(1, MIN, 5) = INDEX");
        b.test(33, "SIZE: a number of places is below 0;", ROWS, "sheet(0, 0, -1) = SIZE; sheet(0, 1, MIN) = SIZE; sheet(3, 0, -24) = SIZE",
            "sheet(0, 0, 0) = 0");
        b.test(41, "KIND: it is none (of a KIND, a number, or another thing).", SLOTS, "rest(1, 1) = KIND; rest(2, 1) = KIND",
            "item(1, 0) = KIND; item(3, 0) = KIND; ask(2, 0) = KIND; ask(3, 0) = KIND; ask(1, 2) = KIND; item(2, 1) = KIND; as(0, 1) = KIND");
    }

    private static void sheet(Bounds b) {
        String says = "A SHEET becomes a row of n places of a sort, all 0 (sort -1: MISSING, n any): n (0).";
        b.test(33, says, "sheet(0, 0, 3) = 3; " + row(0, "0", "0", "0"), "sheet(1, 1, 2) = 2; " + row(1, "0", "0"),
            "sheet(2, 0, 0) = 0; " + row(2), "sheet(3, 1, 24) = 24");
        b.test(33, says, ROWS, "sheet(0, 0, 4) = 4; " + row(0, "0", "0", "0", "0"), row(1, "11", "12", "13"),
            "sheet(2, 1, 3) = 3; " + row(2, "0", "0", "0"));
        b.test(33, says, ROWS, "sheet(0, 1, 2) = 2",
            "mark(0, 0, 40000); " + row(0, "40000", "0"), "sheet(0, 0, 5) = 5; " + row(0, "0", "0", "0", "0", "0"),
            "mark(0, 0, 40000); " + row(0, "-25536", "0", "0", "0", "0"));
        for (String n : new String[] {"0", "24", "25", "-1", "MIN", "MAX"}) {
            b.test(33, says, ROWS, "sheet(0, -1, " + n + ") = 0; pour(0) = NOTHING; mark(0, 0, 0) = NOTHING; sheet(3, -1, " + n + ") = 0",
            "pour(3) = NOTHING; sheet(0, 0, 2) = 2; " + row(0, "0", "0"));
        }
        String refused = "BAD: sheet, sort, n above 24; SIZE.";
        b.bound(33, refused, ROWS, "sheet(?, 1, 2)", 0, 3);
        b.bound(33, refused, ROWS, "sheet(0, ?, 2)", -1, 1);
        b.bound(33, refused, ROWS, "sheet(0, 0, ?)", 0, 24, "SIZE", "BAD");
        b.bound(33, refused, ROWS, "sheet(2, 1, ?)", 0, 24, "SIZE", "BAD");
        // Two at once: BAD stands first.
        b.test(33, refused, ROWS, "sheet(-1, 0, -1) = BAD; sheet(4, 1, -1) = BAD; sheet(0, -2, -1) = BAD; sheet(0, 2, -1) = BAD",
            "sheet(4, 2, 25) = BAD; sheet(4, -1, 0) = BAD; sheet(-1, -1, 99) = BAD; sheet(4, 0, -1) = BAD");
    }

    private static void markShorts(Bounds b) {
        String says = "A place of a SHEET becomes v (of shorts its lowest 16 bits; of floats v, -99999 .. 99999; NONE: NO NUMBER): 1.";
        int[] told = {0, 1, -1, 32766, 32767, 32768, 32769, 65535, 65536, 65537, -32767, -32768, -32769, -65536, 100000, -100000, Due.MAX, Due.MIN, Due.BAD, Due.NONE - 1, Due.NONE + 1};
        for (int v : told) {
            b.test(34, says, "sheet(1, 0, 3); mark(1, 0, 7); mark(1, 2, 9); mark(1, 1, " + v + ") = 1; " + row(1, "7", "" + (short) v, "9"));
        }
        b.test(34, says, "sheet(1, 0, 1)",
            "mark(1, 0, 32768); " + row(1, "-32768") + "; mark(1, 0, 65535); " + row(1, "-1") + "; mark(1, 0, -32769); " + row(1, "32767"));
    }

    private static void markFloats(Bounds b) {
        String says = "of floats v, -99999 .. 99999; NONE: NO NUMBER): 1.";
        b.bound(34, says, ROWS, "mark(2, 0, ?)", -99999, 99999);
        for (int v : new int[] {-99999, -99998, -32769, -1, 0, 1, 32768, 65536, 99998, 99999}) {
            b.test(34, says, ROWS, "mark(2, 0, " + v + ") = 1; " + row(2, "" + v, "KIND", "23"),
            "mark(2, 1, " + v + ") = 1; " + row(2, "" + v, "" + v, "23"));
        }
        b.test(34, says, ROWS, "mark(2, 0, NONE) = 1; mark(2, 2, NONE) = 1",
            "mark(2, 1, NONE) = 1; " + row(2, "KIND", "KIND", "KIND") + "; mark(2, 1, 99999) = 1; " + row(2, "KIND", "99999", "KIND"));
        b.test(34, says, ROWS, "mark(2, 0, 100000) = BAD; mark(2, 0, -100000) = BAD; mark(2, 1, 100000) = BAD; mark(2, 0, NOTHING) = BAD",
            "mark(2, 0, BAD) = BAD; " + row(2, "21", "KIND", "23"));
    }

    private static void markRefused(Bounds b) {
        String says = "BAD: sheet; NOTHING; INDEX; KIND: NONE in a row of shorts; BAD: v of floats.";
        b.bound(34, says, ROWS + "; sheet(3, 0, 1)", "mark(?, 0, 5)", 0, 3);
        b.bound(34, says, ROWS, "mark(1, ?, 5)", 0, 2, "INDEX", "INDEX");
        b.bound(34, says, ROWS, "mark(2, ?, 5)", 0, 2, "INDEX", "INDEX");
        b.test(34, says, ROWS, "mark(3, 0, 5) = NOTHING; mark(0, 0, NONE) = KIND; mark(2, 0, 100000) = BAD");
        // Two at once, in their order.
        b.test(34, says, ROWS, "mark(4, -1, 0) = BAD; mark(4, 0, NONE) = BAD; mark(-1, 99, 100000) = BAD; mark(3, -1, 0) = NOTHING",
            "mark(3, 0, NONE) = NOTHING; mark(3, 0, 100000) = NOTHING",
            "mark(1, 3, NONE) = INDEX; mark(1, -1, NONE) = INDEX; mark(2, 3, 100000) = INDEX; mark(2, -1, -100000) = INDEX",
            "mark(2, 3, NONE) = INDEX");
        b.test(34, says, "sheet(0, 0, 0); sheet(1, 1, 0); mark(0, 0, 1) = INDEX; mark(0, 0, NONE) = INDEX; mark(1, 0, 1) = INDEX",
            "mark(1, 0, 100000) = INDEX; mark(1, -1, NONE) = INDEX");
    }

    private static void pour(Bounds b) {
        String says = "WEIGHTS of WORDS, by numbers, become the places of a SHEET from 0 on (each held within 1 .. 99; NO NUMBER, and beyond the SHEET: they stay):"
            + " how many are otherwise then.";
        String words = "word(0, 50); word(0, 60); word(0, 70); word(0, 80)";
        int[] told = {-99999, -1, 0, 1, 2, 50, 98, 99, 100, 101, 99999};
        for (int v : told) {
            int held = Math.max(1, Math.min(99, v));
            b.test(35, says, words, "sheet(0, 1, 1); mark(0, 0, " + v + ")",
            "pour(0) = " + (held == 50 ? 0 : 1) + "; wordTold(0, 1) = " + held + "; wordTold(1, 1) = 60; pour(0) = 0");
        }
        b.test(35, says, words, "sheet(0, 0, 2); mark(0, 0, -32768); mark(0, 1, 32767); pour(0) = 2; wordTold(0, 1) = 1; wordTold(1, 1) = 99",
            "wordTold(2, 1) = 70; wordTold(3, 1) = 80");
        b.test(35, says, words, "sheet(0, 1, 4); mark(0, 0, NONE); mark(0, 1, 60); mark(0, 2, 71); mark(0, 3, NONE); pour(0) = 1",
            "wordTold(0, 1) = 50; wordTold(1, 1) = 60; wordTold(2, 1) = 71; wordTold(3, 1) = 80");
        b.test(35, says, words, "sheet(0, 0, 0); pour(0) = 0; sheet(0, 0, 24); mark(0, 3, 80); mark(0, 4, 5); mark(0, 23, 6); pour(0) = 3",
            "wordTold(0, 1) = 1; wordTold(3, 1) = 80; word(0, 9); pour(0) = 1; wordTold(4, 1) = 5");
        b.test(35, says, "sheet(0, 0, 24); pour(0) = 0; 12 * word(0, 9); pour(0) = 12; wordTold(11, 1) = 1; wordTold(0, 1) = 1",
            "mark(0, 11, 2); mark(0, 12, 2); pour(0) = 1; wordTold(11, 1) = 2");
        b.bound(35, "BAD; NOTHING.", words + "; " + ROWS + "; sheet(3, 1, 2)", "pour(?)", 0, 3);
        b.test(35, "BAD; NOTHING.", words + "; sheet(1, 0, 1)", "pour(0) = NOTHING; pour(2) = NOTHING; pour(3) = NOTHING; pour(4) = BAD",
            "pour(-1) = BAD; sheet(1, -1, 0); pour(1) = NOTHING; wordTold(0, 1) = 50");
    }

    private static void reads(Bounds b) {
        // LINES by asker 0: 1, 2, 4; by asker 1: 1, 0, 4.
        String words = "word(w0012, 10); word(w0113, 20); word(w4445, 3); asker(0, 5); asker(1, 0)";
        String says = "The first place k (of numbers alone) at which a SHEET is not LINES of WORD k by an ASKER (of places that are no WORD all numbers are not).";
        b.test(36, says, words, "sheet(0, 0, 3); reads(0, 0) = 0; mark(0, 0, 1); reads(0, 0) = 1; reads(0, 1) = 2; mark(0, 1, 2)",
            "reads(0, 0) = 2; reads(0, 1) = 1; mark(0, 2, 4); reads(0, 0) = NONE; mark(0, 2, 3); reads(0, 0) = 2; mark(0, 2, 5); reads(0, 0) = 2");
        b.test(36, says, words, "sheet(0, 1, 5); mark(0, 0, NONE); reads(0, 1) = 2; mark(0, 1, NONE); mark(0, 2, NONE); reads(0, 0) = 3",
            "mark(0, 3, NONE); reads(0, 0) = 4; mark(0, 4, NONE); reads(0, 0) = NONE");
        b.test(36, says, words, "sheet(0, 0, 4); mark(0, 0, 1); mark(0, 1, 2); mark(0, 2, 4); reads(0, 0) = 3; mark(0, 3, -1)",
            "reads(0, 0) = 3; word(w5555, 1); reads(0, 0) = 3; mark(0, 3, 0); reads(0, 0) = NONE");
        b.test(36, says, "asker(0, 0); sheet(0, 1, 24); reads(0, 0) = 0; 12 * word(w0000, 1); reads(0, 0) = 12; sheet(1, 0, 12)",
            "reads(1, 0) = NONE; sheet(1, 0, 13); reads(1, 0) = 12; sheet(1, 0, 0); reads(1, 0) = NONE");
        String refused = "BAD; NOTHING; NONE: there is none.";
        b.bound(36, refused, words + "; " + ROWS + "; sheet(3, 0, 1)", "reads(?, 0)", 0, 3);
        b.bound(36, refused, words + "; " + ROWS, "reads(0, ?)", 0, 1);
        b.test(36, refused, words, "reads(0, 0) = NOTHING; reads(3, 1) = NOTHING; reads(0, 2) = BAD; reads(0, -1) = BAD; reads(4, 0) = BAD",
            "reads(4, 2) = BAD; sheet(0, 0, 0); reads(0, 2) = BAD; reads(0, 0) = NONE");
        b.test(36, refused, "reads(0, 0) = BAD; sheet(0, 0, 0); reads(0, 0) = BAD; asker(0, 0); reads(0, 0) = NONE; sheet(0, -1, 0)",
            "reads(0, 0) = NOTHING; reads(0, 1) = BAD");
    }

    private static void copy(Bounds b) {
        String says = "So many places of a SHEET come to another one (or the same), as they were: many.";
        b.test(37, says, ROWS, "copy(0, 2, 1, 0, 2) = 2; " + row(1, "3", "4", "13"), row(0, "1", "2", "3", "4"),
            "copy(1, 0, 0, 1, 3) = 3; " + row(0, "1", "3", "4", "13"));
        b.test(37, says, ROWS, "copy(0, 0, 1, 0, 0) = 0",
            "copy(0, 4, 1, 3, 0) = 0; " + row(1, "11", "12", "13"), "copy(0, 3, 1, 2, 1) = 1; " + row(1, "11", "12", "4"),
            "copy(0, 0, 0, 0, 4) = 4; " + row(0, "1", "2", "3", "4"));
        b.test(37, says, ROWS, "copy(0, 0, 0, 1, 3) = 3; " + row(0, "1", "1", "2", "3"),
            "copy(0, 1, 0, 0, 3) = 3; " + row(0, "1", "2", "3", "3"), "copy(0, 3, 0, 0, 1) = 1; " + row(0, "3", "2", "3", "3"));
        b.test(37, says, ROWS, "sheet(3, 1, 3)",
            "copy(2, 0, 3, 0, 3) = 3; " + row(3, "21", "KIND", "23"), "copy(2, 1, 2, 2, 1) = 1; " + row(2, "21", "KIND", "KIND"),
            "copy(3, 0, 2, 1, 2) = 2; " + row(2, "21", "21", "KIND"));
        b.test(37, says, "sheet(0, 0, 24); sheet(3, 0, 24); mark(0, 23, 9); copy(0, 0, 3, 0, 24) = 24; lay(0, 2, 3); item(0, 23) = 9",
            "item(0, 22) = 0; sheet(1, 0, 0); sheet(2, 0, 0); copy(1, 0, 2, 0, 0) = 0; copy(1, 0, 1, 0, 0) = 0");
        b.test(37, "(From a SHEET, its place, to a SHEET, its place.)", ROWS, "copy(0, 3, 1, 0, 1) = 1; " + row(1, "4", "12", "13"),
            "copy(1, 1, 0, 3, 1) = 1; " + row(0, "1", "2", "3", "12"));
    }

    private static void copyRefused(Bounds b) {
        String says = "BAD; NOTHING; KIND: they are not of one sort; INDEX.";
        b.bound(37, says, ROWS + "; sheet(2, 0, 1); sheet(3, 0, 1)", "copy(?, 0, 1, 0, 1)", 0, 3);
        b.bound(37, says, ROWS + "; sheet(2, 0, 1); sheet(3, 0, 1)", "copy(1, 0, ?, 0, 1)", 0, 3);
        b.bound(37, says, ROWS, "copy(0, ?, 1, 1, 2)", 0, 2, "INDEX", "INDEX");
        b.bound(37, says, ROWS, "copy(0, 1, 1, ?, 2)", 0, 1, "INDEX", "INDEX");
        b.bound(37, says, ROWS, "copy(0, 1, 1, 0, ?)", 0, 3, "INDEX", "INDEX");
        b.bound(37, says, ROWS, "copy(0, 0, 1, 1, ?)", 0, 2, "INDEX", "INDEX");
        b.bound(37, says, ROWS, "copy(0, ?, 1, 1, 0)", 0, 4, "INDEX", "INDEX");
        b.bound(37, says, ROWS, "copy(0, 1, 1, ?, 0)", 0, 3, "INDEX", "INDEX");
        b.test(37, says, ROWS, "copy(0, 0, 3, 0, 1) = NOTHING; copy(3, 0, 0, 0, 1) = NOTHING; copy(3, 0, 3, 0, 0) = NOTHING",
            "copy(0, 0, 2, 0, 1) = KIND; copy(2, 0, 0, 0, 1) = KIND; copy(2, 0, 0, 0, 0) = KIND");
        // A place and a number of places that wrap around together.
        b.test(37, says, ROWS, "copy(0, 1, 1, 0, MAX) = INDEX; copy(0, MAX, 1, 0, 1) = INDEX; copy(0, 0, 1, MAX, 1) = INDEX",
            "copy(0, MAX, 1, MAX, MAX) = INDEX; copy(0, MIN, 1, 0, MIN) = INDEX; copy(0, 0, 1, 0, MIN) = INDEX; copy(0, 3, 1, 2, MAX) = INDEX");
        // Two at once, in their order.
        b.test(37, says, ROWS, "copy(4, 0, 3, 0, 0) = BAD; copy(3, 0, -1, 0, 0) = BAD; copy(4, 9, 2, 9, 9) = BAD",
            "copy(3, -1, 0, 0, 1) = NOTHING; copy(0, 0, 3, 9, 1) = NOTHING; copy(2, 0, 3, 0, 1) = NOTHING; copy(0, 0, 3, 0, -1) = NOTHING",
            "copy(0, 9, 2, 0, 1) = KIND; copy(2, 0, 0, 9, 1) = KIND; copy(2, 0, 0, 0, -1) = KIND; copy(0, -1, 2, -1, -1) = KIND",
            "copy(0, -1, 1, 9, 1) = INDEX");
    }

    private static void lay(Bounds b) {
        String says = "A SLOT holds: thing 0 nothing, 1 ASKER k, 2 SHEET k, 3 the number k: what it held (0 .. 3).";
        String things = "asker(0, 5); asker(3, 4); sheet(0, 0, 1); sheet(3, 1, 2)";
        b.test(38, says, things, "lay(2, 0, 0) = 0; lay(2, 1, 1) = 0; ask(2, 0) = 28; lay(2, 2, 3) = 1; item(2, 1) = 0; lay(2, 3, 17) = 2",
            "rest(2, 10) = 7; lay(2, 0, 0) = 3; lay(2, 0, 0) = 0; rest(2, 10) = NOTHING");
        b.test(38, says, things, "lay(2, 1, 0) = 0; lay(2, 1, 1) = 1; ask(2, 0) = 28; lay(2, 2, 0) = 1; lay(2, 2, 3) = 2; item(2, 1) = 0",
            "lay(2, 3, 5) = 2; lay(2, 3, 6) = 3; rest(2, 10) = 6; lay(2, 1, 0) = 3; ask(2, 0) = 5; lay(2, 0, 9) = 1");
        b.test(38, says, things, "lay(0, 0, MIN) = 0; lay(0, 0, MAX) = 0; lay(0, 0, 9) = 0; lay(0, 3, MIN) = 0; rest(0, 10) = -8",
            "lay(0, 3, MAX) = 3; rest(0, 10) = 7; lay(0, 3, -1) = 3; rest(0, 10) = -1");
        String refused = "BAD: slot, thing, k; NOTHING: that SHEET is MISSING.";
        b.bound(38, refused, things, "lay(?, 1, 0)", 0, 4);
        b.bound(38, refused, things, "lay(1, ?, 0)", 0, 3);
        b.bound(38, refused, things, "lay(1, 1, ?)", 0, 1);
        b.bound(38, refused, things + "; sheet(1, 0, 0); sheet(2, 0, 0)", "lay(1, 2, ?)", 0, 3);
        b.test(38, refused, "lay(0, 1, 0) = BAD; 7 * asker(0, 0); asker(5, 0); lay(0, 1, 7) = 0; lay(0, 1, 8) = BAD; ask(0, 5) = 1");
        b.test(38, refused, SLOTS, "lay(1, 2, 3) = NOTHING; lay(2, 2, 3) = NOTHING; lay(3, 2, 3) = NOTHING; lay(0, 2, 3) = NOTHING",
            "lay(1, 1, 2) = BAD; lay(2, 2, 4) = BAD; lay(3, 4, 0) = BAD; lay(5, 3, 0) = BAD");
        // Two at once: BAD stands first.
        b.test(38, refused, SLOTS, "lay(5, 2, 3) = BAD; lay(-1, 2, 3) = BAD; lay(5, 4, 0) = BAD; lay(5, 1, 9) = BAD; lay(0, 4, 3) = BAD",
            "lay(5, 2, 4) = BAD");
    }

    private static void ask(Bounds b) {
        String says = "WORTH (by its own KIND) of the ASKER in a SLOT, taken for one of a KIND (0 .. 5).";
        b.test(39, says, SLOTS, "ask(1, 0) = 28; ask(1, 1) = 28; ask(1, 3) = 28; asker(4, 5); lay(0, 1, 2); ask(0, 0) = 39; ask(0, 2) = 39",
            "ask(0, 4) = 39; asker(5, 5); lay(0, 1, 3); ask(0, 0) = 1; ask(0, 5) = 1");
        String refused = "BAD; NOTHING; KIND: it is no ASKER, or not of that KIND, nor of one under it.";
        b.bound(39, refused, SLOTS + "; lay(0, 1, 0); lay(2, 1, 0); lay(3, 1, 0); lay(4, 1, 0)", "ask(?, 0)", 0, 4);
        b.test(39, refused, SLOTS, "ask(1, -1) = BAD; ask(1, 6) = BAD; ask(1, MIN) = BAD; ask(1, MAX) = BAD; ask(0, 0) = NOTHING",
            "ask(0, 5) = NOTHING; ask(2, 0) = KIND; ask(3, 0) = KIND; ask(4, 0) = KIND; ask(1, 2) = KIND; ask(1, 4) = KIND; ask(1, 5) = KIND");
        b.test(39, refused, "asker(0, 5); asker(1, 5); asker(2, 5); lay(0, 1, 0); lay(1, 1, 1); lay(2, 1, 2); ask(0, 1) = KIND",
            "ask(0, 2) = KIND; ask(0, 5) = KIND; ask(1, 3) = KIND; ask(2, 4) = KIND; ask(1, 2) = KIND; ask(2, 1) = KIND");
        // Two at once, in their order.
        b.test(39, refused, SLOTS, "ask(5, 6) = BAD; ask(-1, 0) = BAD; ask(0, 6) = BAD; ask(0, -1) = BAD; ask(2, 6) = BAD; ask(3, -1) = BAD",
            "ask(1, 6) = BAD; ask(0, 2) = NOTHING");
    }

    private static void item(Bounds b) {
        b.test(40, "A place of the SHEET in a SLOT.", SLOTS, "item(4, 0) = 1; item(4, 3) = 4; item(2, 0) = 21; item(2, 2) = 23");
        String refused = "BAD: slot; NOTHING; KIND: it is no SHEET; INDEX; KIND: NO NUMBER.";
        b.bound(40, refused, SLOTS + "; lay(0, 2, 1); lay(1, 2, 1); lay(3, 2, 1)", "item(?, 0)", 0, 4);
        b.bound(40, refused, SLOTS, "item(4, ?)", 0, 3, "INDEX", "INDEX");
        b.bound(40, refused, "sheet(0, 1, 24); lay(4, 2, 0)", "item(4, ?)", 0, 23, "INDEX", "INDEX");
        b.test(40, refused, SLOTS, "item(0, 0) = NOTHING; item(1, 0) = KIND; item(3, 0) = KIND; item(2, 3) = INDEX; item(2, 1) = KIND",
            "sheet(0, 0, 0); lay(0, 2, 0); item(0, 0) = INDEX; item(0, -1) = INDEX");
        // Two at once, in their order.
        b.test(40, refused, SLOTS, "item(5, -1) = BAD; item(-1, 99) = BAD; item(0, -1) = NOTHING; item(0, 99) = NOTHING; item(1, -1) = KIND",
            "item(1, 99) = KIND; item(3, -1) = KIND; item(3, 99) = KIND");
    }

    private static void rest(Bounds b) {
        String says = "The rest of the number in a SLOT by n.";
        int[][] rests = {{11, 4, 3}, {-11, 4, -3}, {11, -4, 3}, {-11, -4, -3}, {0, 5, 0}, {5, 5, 0}, {4, 5, 4}, {6, 5, 1}, {7, 1, 0}, {7, -1, 0}, {Due.MIN, -1, 0}, {Due.MIN, Due.MIN, 0},
            {Due.MAX, Due.MIN, Due.MAX}, {Due.MIN, Due.MAX, -1}, {Due.MIN, 1, 0}, {Due.MIN, 10, -8}};
        for (int[] r : rests) {
            b.test(41, says, "lay(0, 3, " + r[0] + "); rest(0, " + r[1] + ") = " + r[2]);
        }
        String refused = "BAD: slot; NOTHING; KIND: it is no number; NO: n is 0.";
        b.bound(41, refused, SLOTS + "; lay(0, 3, 1); lay(1, 3, 1); lay(2, 3, 1); lay(4, 3, 1)", "rest(?, 5)", 0, 4);
        b.test(41, refused, SLOTS, "rest(0, 1) = NOTHING; rest(1, 1) = KIND; rest(2, 1) = KIND; rest(4, 1) = KIND; rest(3, 0) = NO",
            "rest(3, -1) = 0; rest(3, 1) = 0");
        // Two at once, in their order.
        b.test(41, refused, SLOTS, "rest(5, 0) = BAD; rest(-1, 0) = BAD; rest(0, 0) = NOTHING; rest(1, 0) = KIND; rest(2, 0) = KIND",
            "rest(4, 0) = KIND");
    }
}
