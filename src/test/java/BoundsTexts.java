/** Part 4 of "Terms", and promises 28 to 32: texts. */
final class BoundsTexts {
    private static final String FAULT = "FAULT: the first byte of the first word or sign with which no TEXT goes on";
    private static final String BLANK = "(a word that needs a blank ahead of it, a NUMBER of more than 4 digits, the ninth ( that would be open within others,"
        + " the ninth ! likewise, each by itself);";
    private static final String END = "the end (the place behind the last byte), if it comes too soon.";
    private static final String[] KEYS = {"ask", "draw", "fine"};
    private static final String[] NAMES = {"nwf", "wn", "lk"};

    private BoundsTexts() {
    }

    static void run(Bounds b) {
        theTape(b);
        howMany(b);
        grammar(b);
        numbers(b);
        names(b);
        values(b);
        words(b);
        faults(b);
        deep(b);
        ends(b);
        works(b);
        counts(b);
        feed(b);
        trim(b);
        text(b);
        textTold(b);
        why(b);
    }

    /** A TEXT of fine, and what it gives. */
    private static void gives(Bounds b, String says, String text, int want) {
        b.test(27, says, "text '" + text + "' = 0; count(7) = 0; count(5) = 1; fine() = " + want);
    }

    private static void fault(Bounds b, String says, String text, int place) {
        b.test(30, says, "text '" + text + "' = " + (-100 - place) + "; count(5) = 0; count(7) = 0; why(0) = NONE; why(1) = NONE; why(2) = NONE");
    }

    private static String many(String sign, int n) {
        return sign.repeat(n);
    }

    private static void theTape(Bounds b) {
        String says = "from THE TAPE (96 bytes at most; an act that reads it uses it up, whatever it answers):";
        b.test(28, says, "8 * feed(0, 0, 0); count(7) = 96; feed(0, 0, 0) = FULL; count(7) = 96; trim(85); feed(0, 0, 0) = FULL; trim(84)",
            "feed(0, 0, 0) = 96");
        b.test(30, says, "text 'ask n' = 0; count(7) = 0; text() = -100; text 'ask x' = -104; count(7) = 0; text() = -100; 13 * text 'ask 1'",
            "text 'ask 2' = FULL; count(7) = 0; text() = -100");
        // What was read for one TEXT is not there for the next one, be it a TEXT or none.
        b.test(30, says, "text 'fine " + many("1+", 45) + "1' = 0; fine() = 46; text 'fine " + many("2+", 45) + "2' = 1; fine() = 92",
            "text 'fine " + many("3+", 45) + "' = -195; text 'fine " + many("4+", 44) + "4' = 2; fine() = 180; textTold(2, 1) = 45");
        // All 96 bytes are read: the last of them is a digit, a blank, a sign too many.
        gives(b, says, "fine " + many("1+", 45) + "2", 47);
        b.test(30, says, "tape 'fine " + many("1+", 45) + "2'; count(7) = 96; text() = 0; fine() = 47; textTold(0, 1) = 46");
        gives(b, says, "fine " + many("1+", 44) + "34", 78);
        gives(b, says, many(" ", 90) + "fine 5", 5);
        gives(b, says, "fine 5" + many(" ", 90), 5);
        fault(b, says, "fine 5" + many(" ", 89) + ")", 95);
        fault(b, says, "fine " + many("1+", 45) + "+", 95);
        fault(b, says, "fine" + many(" ", 92), 96);
        fault(b, says, many(" ", 96), 96);
    }

    private static void howMany(Bounds b) {
        String says = "TEXTS, 14 at most, numbered from 0,";
        b.test(30, says, "text 'ask 0' = 0; text 'draw 1' = 1; 11 * text 'fine 9'; count(5) = 13; text 'fine 7' = 13; count(5) = 14",
            "fine() = 7; text 'fine 8' = FULL; count(5) = 14; fine() = 7; why(2) = 13");
        b.test(31, says, "textTold(0, 0) = BAD; 13 * text 'ask 0'; text 'fine 1+1'; textTold(-1, 0) = BAD; textTold(0, 0) = 0",
            "textTold(13, 0) = 2; textTold(13, 1) = 2; textTold(14, 0) = BAD");
    }

    private static void grammar(Bounds b) {
        String key = "KEY E. KEY: ask | draw | fine.";
        for (int k = 0; k < 3; k++) {
            b.test(31, key, "text '" + KEYS[k] + " 1' = 0; textTold(0, 0) = " + k + "; why(" + k + ") = 0; why(" + (k + 1) % 3 + ") = NONE");
            fault(b, key, KEYS[k] + "s 1", 0);
            fault(b, key, KEYS[k].substring(0, 2) + " 1", 0);
            fault(b, key, KEYS[k].substring(1) + " 1", 0);
            fault(b, key, KEYS[k] + " " + KEYS[k] + " 1", KEYS[k].length() + 1);
            fault(b, key, KEYS[k] + " 1 " + KEYS[k], KEYS[k].length() + 3);
            fault(b, key, KEYS[k].substring(0, 1).toUpperCase() + KEYS[k].substring(1) + " 1", 0);
        }
        fault(b, key, "1", 0);
        fault(b, key, "(ask 1)", 0);
        fault(b, key, "n", 0);
        String or = "E, the loosest first: OR: AND { | AND };";
        gives(b, or, "fine 0", 0);
        gives(b, or, "fine 0|0", 0);
        gives(b, or, "fine 0|0|3", 1);
        gives(b, or, "fine 1|0&0", 1);
        gives(b, or, "fine 0&0|1", 1);
        String and = "AND: TEST { & TEST };";
        gives(b, and, "fine 2&4", 1);
        gives(b, and, "fine 2&4&0", 0);
        gives(b, and, "fine 2&2=2", 1);
        gives(b, and, "fine 0=1&0", 0);
        String test = "TEST: SUM [ (< | = | >) SUM ];";
        gives(b, test, "fine 1+1=2", 1);
        gives(b, test, "fine 2=1+1", 1);
        gives(b, test, "fine 4<3+2", 1);
        gives(b, test, "fine (1<2)<3", 1);
        fault(b, test, "fine 1<2<3", 8);
        fault(b, test, "fine 1=2=3", 8);
        fault(b, test, "fine 1>2>3", 8);
        fault(b, test, "fine (1<2=3)", 9);
        fault(b, test, "fine 1<=2", 7);
        String sum = "SUM: TERM { (+ | -) TERM };";
        gives(b, sum, "fine 9-3-2", 4);
        gives(b, sum, "fine 9-3+2", 8);
        gives(b, sum, "fine 1+2*3-4/2", 5);
        fault(b, sum, "fine -1", 5);
        fault(b, sum, "fine 1+-1", 7);
        String term = "TERM: PIECE { (* | /) PIECE };";
        gives(b, term, "fine 60/5/4", 3);
        gives(b, term, "fine 7/2*2", 6);
        gives(b, term, "fine 7*2/4", 3);
        gives(b, term, "fine 2*!0", 2);
        fault(b, term, "fine 1**2", 7);
    }

    private static void numbers(Bounds b) {
        String piece = "PIECE: NUMBER (1 to 4 digits) | NAME | ! PIECE | ( E ).";
        gives(b, piece, "fine 0", 0);
        gives(b, piece, "fine 9", 9);
        gives(b, piece, "fine 10", 10);
        gives(b, piece, "fine 999", 999);
        gives(b, piece, "fine 1000", 1000);
        gives(b, piece, "fine 9999", 9999);
        gives(b, piece, "fine 0000", 0);
        gives(b, piece, "fine 0012", 12);
        fault(b, piece, "fine 10000", 5);
        fault(b, piece, "fine 00000", 5);
        fault(b, piece, "fine 1+12345+1", 7);
        fault(b, piece, "fine 1234567890", 5);
        gives(b, piece, "fine l", 0);
        gives(b, piece, "fine !0", 1);
        gives(b, piece, "fine !5+1", 1);
        gives(b, piece, "fine !!5", 1);
        gives(b, piece, "fine !(0|0)", 1);
        gives(b, piece, "fine ((1+2))*3", 9);
        gives(b, piece, "fine (1|0)&0", 0);
        fault(b, piece, "fine ()", 6);
        fault(b, piece, "fine 1!", 6);
        fault(b, piece, "fine !", 6);
        fault(b, piece, "fine !+1", 6);
        fault(b, piece, "fine 1(2)", 6);
        fault(b, piece, "fine (1)2", 8);
        fault(b, piece, "fine (1)(2)", 8);
        fault(b, piece, "fine 1)", 6);
        fault(b, piece, "fine 1 2", 7);
    }

    private static void names(Bounds b) {
        String says = "NAMES, each one letter: of ask n how many WORDS that FIT have the LETTER, w WEIGHTS of these, together, f 1 if it is FIRST (else 0);"
            + " of draw w WEIGHT, n the number of the WORD; of fine l LINES, k how many LETTERS are ASKED (what fine gives is told by fine();";
        for (int key = 0; key < 3; key++) {
            for (char name = 'a'; name <= 'z'; name++) {
                String text = KEYS[key] + " 1+" + name;
                if (NAMES[key].indexOf(name) >= 0) {
                    b.test(30, says, "text '" + text + "' = 0; textTold(0, 1) = 2");
                } else {
                    fault(b, says, text, text.length() - 1);
                }
            }
            for (char name : NAMES[key].toCharArray()) {
                fault(b, says, KEYS[key] + " " + name + name, KEYS[key].length() + 1);
                fault(b, says, KEYS[key] + " " + name + " " + name, KEYS[key].length() + 3);
                fault(b, says, KEYS[key] + " " + Character.toUpperCase(name), KEYS[key].length() + 1);
            }
        }
    }

    private static void values(Bounds b) {
        String ask = "of ask n how many WORDS that FIT have the LETTER, w WEIGHTS of these, together, f 1 if it is FIRST (else 0);";
        String three = "word(w0012, 10); word(w0113, 20); word(w4445, 3); asker(0, 1)";
        b.test(7, ask, three, "text 'ask n*1000+w*10+f'; score(0, 0) = 0; score(0, 1) = 1; hide(0); score(0, 0) = 2300; score(0, 1) = 2301",
            "score(0, 2) = 1100; score(0, 4) = 1030; asks(2); score(0, 0) = 1100; score(0, 1) = 1101; score(0, 4) = 0");
        b.test(7, ask, three, "turns(0, 5); text 'ask n*1000+w*10+f'; score(0, 1) = 9998; hide(0); score(0, 0) = 7699; score(0, 1) = 7698; asks(2)",
            "score(0, 0) = 8899; score(0, 4) = 9999");
        b.test(7, ask, "12 * word(w0001, 99); asker(0, 0); hide(0); text 'ask n'; score(0, 0) = 12; score(0, 1) = 12; score(0, 2) = 0",
            "text 'ask w'; score(0, 0) = 1188; text 'ask f'; score(0, 0) = 1; score(0, 1) = 0");
        String draw = "of draw w WEIGHT, n the number of the WORD;";
        b.test(16, draw, three, "text 'draw w'; seed(d9); choose() = 0; seed(d10); choose() = 1; seed(d30); choose() = 2; text 'draw n'",
            "seed(d0); choose() = 1; seed(d1); choose() = 2; seed(d2); choose() = 2; seed(d3); choose() = 1");
        b.test(16, draw, "11 * word(0, 7); word(0, 99); text 'draw n=11'; choose() = 11; text 'draw w=99'; choose() = 11; text 'draw n=0'",
            "choose() = 0; text 'draw n>11'; choose() = NONE");
        String fine = "of fine l LINES, k how many LETTERS are ASKED (what fine gives is told by fine(); without a TEXT: LINES).";
        b.test(27, fine, "fine() = 0; word(w5555, 1); hide(0); asks(0); asks(1); fine() = 2; text 'fine l'; fine() = 2; asks(5); fine() = 2",
            "text 'fine k'; fine() = 3; hide(0); fine() = 0");
        b.test(27, fine, "text 'fine l*10+k'; word(w5555, 1); gallows(9); fine() = 0; hide(0); fine() = 0; asks(0); asks(1); asks(2)",
            "asks(3); asks(4); fine() = 55; asks(5); fine() = 56");
    }

    private static void words(Bounds b) {
        String word = "A word is a row of letters a .. z, or of digits, as long as it goes; any other byte is a sign by itself.";
        fault(b, word, "askn", 0);
        fault(b, word, "askz n", 0);
        fault(b, word, "ask na", 4);
        fault(b, word, "ask nz", 4);
        fault(b, word, "ask an", 4);
        fault(b, word, "ask n`", 5);
        fault(b, word, "ask n{", 5);
        fault(b, word, "ask `n", 4);
        fault(b, word, "ask {n", 4);
        fault(b, word, "ask 1/", 6);
        fault(b, word, "ask 1:", 5);
        fault(b, word, "ask :", 4);
        fault(b, word, "ask /", 4);
        fault(b, word, "ask 1a", 5);
        fault(b, word, "ask a1", 4);
        gives(b, word, "fine 0+9", 9);
        gives(b, word, "fine 9090", 9090);
        // The first byte of a row of digits, or letters, is where it fails, not the first one too many.
        fault(b, word, "ask 99990", 4);
        fault(b, word, "ask 1+nnnnn", 6);
        for (int sign = 0; sign < 256; sign++) {
            boolean isWord = sign >= 'a' && sign <= 'z' || sign >= '0' && sign <= '9';
            if (!isWord && " |&<=>+-*/'".indexOf(sign) < 0) {
                fault(b, word, "fine 1" + (char) sign, 6);
            }
        }
        String blanks = "Between words and signs, and at the ends, there may be blanks (byte 32);";
        gives(b, blanks, "   fine   (  1  +  2  )  *  !  0   ", 3);
        gives(b, blanks, "fine(1+2)*!0", 3);
        gives(b, blanks, "fine!0", 1);
        fault(b, blanks, "fine\t1", 4);
        fault(b, blanks, "fine 1\n", 6);
        fault(b, blanks, "fine" + (char) 160 + "1", 4);
        fault(b, blanks, (char) 31 + "fine 1", 0);
        fault(b, blanks, "fine 1 " + (char) 0, 7);
        fault(b, blanks, "f ine 1", 0);
        fault(b, blanks, "fine 1 2", 7);
        String needs = "a word right behind another one needs one.";
        fault(b, needs, "fine1", 4);
        gives(b, needs, "fine 1", 1);
        gives(b, needs, "fine  1", 1);
        fault(b, needs, "ask1n", 3);
        fault(b, needs, "ask 1n", 5);
        fault(b, needs, "ask n1", 5);
        gives(b, needs, "fine 1+l+2", 3);
    }

    private static void faults(Bounds b) {
        fault(b, FAULT, "ask n w", 6);
        fault(b, FAULT, "  ask  +", 7);
        fault(b, FAULT, "ask (n", 6);
        fault(b, FAULT, "ask (n))", 7);
        fault(b, FAULT, "ask (n+)", 7);
        fault(b, FAULT, "ask n+*2", 6);
        fault(b, FAULT, "ask n&&n", 6);
        fault(b, FAULT, "ask n||n", 6);
        fault(b, FAULT, "ask n w w ) (", 6);
        fault(b, FAULT, "asl x ) 12345", 0);
        fault(b, BLANK, "ask5", 3);
        fault(b, BLANK, "draw5", 4);
        fault(b, BLANK, "ask1234567", 3);
        fault(b, BLANK, " ask5", 4);
        fault(b, BLANK, "ask 12345", 4);
        fault(b, BLANK, "ask (12345)", 5);
        fault(b, BLANK, "ask 1234+12345", 9);
        fault(b, BLANK, "ask !99999", 5);
    }

    private static void deep(Bounds b) {
        for (int n = 7; n <= 10; n++) {
            String brackets = "fine " + many("(", n) + "6" + many(")", n);
            String nots = "fine " + many("!", n) + "6";
            String both = "fine " + many("!(", n) + "6" + many(")", n);
            if (n <= 8) {
                gives(b, BLANK, brackets, 6);
                gives(b, BLANK, nots, 1 - n % 2);
                gives(b, BLANK, both, 1 - n % 2);
            } else {
                fault(b, BLANK, brackets, 13);
                fault(b, BLANK, nots, 13);
                fault(b, BLANK, both, 21);
            }
        }
        // Open at once counts, not all that were there; and each by itself.
        gives(b, BLANK, "fine " + many("(1)+", 9) + "1", 10);
        gives(b, BLANK, "fine (1)+" + many("(", 8) + "1" + many(")", 8) + "+(1)", 3);
        gives(b, BLANK, "fine " + many("!0+", 9) + "1", 10);
        gives(b, BLANK, "fine !0+" + many("!", 8) + "1+!0", 3);
        gives(b, BLANK, "fine " + many("!", 8) + many("(", 8) + "1" + many(")", 8), 1);
        gives(b, BLANK, "fine " + many("(", 8) + many("!", 8) + "1" + many(")", 8), 1);
        fault(b, BLANK, "fine " + many("!", 8) + many("(", 9) + "1" + many(")", 9), 21);
        fault(b, BLANK, "fine " + many("(", 8) + many("!", 9) + "1" + many(")", 8), 21);
        fault(b, BLANK, "fine !(" + many("!", 8) + "1)", 14);
        gives(b, BLANK, "fine !(" + many("!", 7) + "1)", 1);
        fault(b, BLANK, "fine (" + many("(", 8) + "1" + many(")", 9), 13);
        gives(b, BLANK, "fine (" + many("(", 7) + "1" + many(")", 7) + "+(1))", 2);
        fault(b, BLANK, "fine " + many("(", 8) + "1+(1)" + many(")", 8), 15);
        // What was open in a FAULT is not open in the next TEXT.
        b.test(30, BLANK, "text 'fine " + many("(", 9) + "' = -113; text 'fine " + many("!", 9) + "' = -113",
            "text 'fine " + many("!(", 8) + "' = -121; text 'fine " + many("!(", 8) + "6" + many(")", 8) + "' = 0; fine() = 1");
    }

    private static void ends(Bounds b) {
        fault(b, END, "", 0);
        fault(b, END, " ", 1);
        fault(b, END, "fine", 4);
        fault(b, END, "fine  ", 6);
        fault(b, END, "fine 1+", 7);
        fault(b, END, "fine 1+ ", 8);
        fault(b, END, "fine (", 6);
        fault(b, END, "fine (1", 7);
        fault(b, END, "fine (1  ", 9);
        fault(b, END, "fine !", 6);
        fault(b, END, "fine 1<", 7);
        fault(b, END, "fine 1*", 7);
        fault(b, END, "fine 1&", 7);
        fault(b, END, "fine 1|  ", 9);
        fault(b, END, "fine ((1)", 9);
    }

    private static void works(Bounds b) {
        String wrap = "Ints wrap;";
        gives(b, wrap, "fine 4096*4096*128", Due.MIN);
        gives(b, wrap, "fine 4096*4096*128-1", Due.MAX);
        gives(b, wrap, "fine 4096*4096*128-1+1", Due.MIN);
        gives(b, wrap, "fine 4096*4096*256", 0);
        gives(b, wrap, "fine 4096*4096*128*(0-1)", Due.MIN);
        gives(b, wrap, "fine 4096*4096*128/(0-1)", Due.MIN);
        gives(b, wrap, "fine 0-4096*4096*128", Due.MIN);
        gives(b, wrap, "fine 9999*9999*9999", 9999 * 9999 * 9999);
        gives(b, wrap, "fine 4096*4096*128<0", 1);
        String zero = "/ is 0 by 0;";
        gives(b, zero, "fine 5/0", 0);
        gives(b, zero, "fine 0/0", 0);
        gives(b, zero, "fine (0-5)/0", 0);
        gives(b, zero, "fine 5/(1-1)+2", 2);
        gives(b, zero, "fine 5/1", 5);
        gives(b, zero, "fine 5/(0-1)", -5);
        String tests = "tests, & | ! give 1 or 0 (what is not 0 is true; both sides are worked out).";
        String[] ones = {"1<2", "2=2", "2>1", "5&7", "0|9", "9|0", "(0-1)&(0-2)", "!0", "0-1<0", "(0-1)|0", "!!5", "!!(0-5)", "5|7"};
        String[] zeros = {"2<2", "3<2", "2=3", "2>2", "1>2", "5&0", "0&5", "0&0", "0|0", "!5", "!1", "!(0-1)", "!!0", "5/0|0/0", "1&1/0"};
        for (String one : ones) {
            gives(b, tests, "fine " + one, 1);
        }
        for (String none : zeros) {
            gives(b, tests, "fine " + none, 0);
        }
    }

    private static void counts(Bounds b) {
        b.test(27, "Of a KEY that TEXT counts that was told last.", "fine() = 0; text 'fine 5' = 0; fine() = 5; text 'fine 6' = 1",
            "fine() = 6; text 'ask 7' = 2; fine() = 6; text 'fine 8 8' = -107; fine() = 6; text 'fine 9' = 3; fine() = 9");
        b.test(7, "Of a KEY that TEXT counts that was told last.", "asker(0, 0); text 'ask 5'; score(0, 3) = 5; text 'fine 6'",
            "score(0, 3) = 5; text 'ask 7'; score(0, 3) = 7; text 'ask' = -103; score(0, 3) = 7");
        b.test(16, "Of a KEY that TEXT counts that was told last.", "2 * word(0, 1); text 'draw n=0'; choose() = 0; text 'draw n=1'",
            "choose() = 1; text 'fine 0'; choose() = 1; text 'draw 0'; choose() = NONE");
    }

    private static void feed(Bounds b) {
        String says = "Twelve bytes come to THE TAPE, the highest of each number first: how many it has. FULL: it would have more than 96.";
        b.test(28, says, "feed(1718185573, 540090418, 538976288) = 12; count(7) = 12; text() = -107",
            "feed(1718185573, 540093234, 842150432) = 12; trim(11); text() = 0; fine() = 2223");
        // The bytes 102 105 110 101, 32 57 48 49, 50 32 32 32: fine 9012; the lowest byte of each number is the last.
        b.test(28, says, "feed(1718185573, 540618801, 840966176) = 12; text() = 0; fine() = 9012");
        b.test(28, says, "7 * feed(0, 0, 0); feed(MIN, MAX, -1) = 96; feed(0, 0, 0) = FULL; feed(MIN, MAX, -1) = FULL; count(7) = 96");
        for (int length = 83; length <= 86; length++) {
            b.test(28, says, "8 * feed(1, 2, 3); trim(" + length + ")",
            "feed(0, 0, 0) = " + (length <= 84 ? "" + (length + 12) : "FULL") + "; count(7) = " + (length <= 84 ? length + 12 : length));
        }
        // The highest bit of a byte, 128 to 255: signs by themselves, none of them a blank.
        b.test(28, says, "feed(-1, -1, -1) = 12; text() = -100; feed(538976511, -1, -1) = 12; text() = -103; feed(538976256, 0, 0) = 12",
            "text() = -103; feed(538976288, 538976288, 538976416) = 12; text() = -111");
    }

    private static void trim(Bounds b) {
        String says = "THE TAPE keeps its first n bytes: n. BAD.";
        b.test(29, says, "trim(0) = 0; trim(1) = BAD; feed(1718185573, 540093234, 538976288); trim(12) = 12; count(7) = 12; trim(13) = BAD",
            "trim(6) = 6; count(7) = 6; trim(7) = BAD; text() = 0; fine() = 1");
        b.test(29, says, "tape 'fine 12345'; trim(9) = 9; text() = 0; fine() = 1234; trim(1) = BAD; trim(0) = 0");
        b.bound(29, says, "feed(1, 2, 3)", "trim(?)", 0, 12);
        b.bound(29, says, "8 * feed(1, 2, 3)", "trim(?)", 0, 96);
        b.bound(29, says, "", "trim(?)", 0, 0);
    }

    private static void text(Bounds b) {
        b.test(30, "THE TAPE is a TEXT: its number.", "text 'ask 1' = 0; text 'ask 1' = 1; text 'draw 1' = 2; text 'fine 1' = 3; count(5) = 4");
        String refused = "-100 less the place of its FAULT; FULL.";
        b.test(30, refused, "text '' = -100; text 'x' = -100; text ' x' = -101; text '" + many(" ", 95) + "x' = -195",
            "text '" + many(" ", 96) + "' = -196; count(5) = 0");
        b.test(30, refused, "14 * text 'ask 1'; text 'ask 1' = FULL; text 'draw 1' = FULL; text 'fine 1' = FULL; count(5) = 14",
            "why(1) = NONE; why(0) = 13");
        // Two at once: FAULT stands first.
        b.test(30, refused, "14 * text 'ask 1'; text '' = -100; text 'ask' = -103; text 'ask x' = -104; text 'ask 12345' = -104",
            "text 'ask n n' = -106; text 'ask n' = FULL; count(5) = 14");
    }

    private static void textTold(Bounds b) {
        String says = "Of a TEXT: what 0 KEY (0 ask, 1 draw, 2 fine), 1 how many NUMBERS and NAMES it has. BAD.";
        String three = "text 'fine 1'; text 'ask (n+w)*f<!12|n'; text 'draw w-w'";
        b.test(31, says, three, "textTold(0, 0) = 2; textTold(1, 0) = 0; textTold(2, 0) = 1; textTold(0, 1) = 1; textTold(1, 1) = 5",
            "textTold(2, 1) = 2");
        b.bound(31, says, three, "textTold(?, 0)", 0, 2);
        b.bound(31, says, three, "textTold(1, ?)", 0, 1);
        b.test(31, says, "textTold(0, 0) = BAD; textTold(-1, 2) = BAD; text 'ask x' = -104; textTold(0, 0) = BAD; text 'ask 1'",
            "textTold(0, 0) = 0; textTold(1, 2) = BAD");
        b.test(31, says, "13 * text 'ask 1'; text 'fine 1+1' = 13; text 'fine 1' = FULL; textTold(13, 1) = 2; textTold(13, 0) = 2",
            "textTold(14, 0) = BAD");
    }

    private static void why(Bounds b) {
        String says = "The TEXT that counts for a KEY. BAD; NONE.";
        b.test(32, says, "why(0) = NONE; why(1) = NONE; why(2) = NONE; text 'fine 1'; why(2) = 0; why(0) = NONE; why(1) = NONE; text 'ask 1'",
            "text 'draw 1'; why(0) = 1; why(1) = 2; text 'fine 2'; why(2) = 3; why(0) = 1");
        b.bound(32, says, "text 'ask 1'; text 'fine 1'", "why(?)", 0, 2);
        b.bound(32, says, "", "why(?)", 0, 2);
        b.test(32, says, "13 * text 'ask 1'; text 'fine 1'; text 'ask 2' = FULL; why(0) = 12; why(2) = 13; why(1) = NONE");
    }
}
