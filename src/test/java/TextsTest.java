/** Promises 28 to 32: texts, and what they give. */
public final class TextsTest {
    private static final Due due = new Due("TextsTest");

    public static void main(String[] args) {
        feeds();
        trims();
        usesUp();
        isFull();
        numbersAndNames();
        counts();
        works();
        names();
        wordsAndSigns();
        faults();
        deep();
        scoresByText();
        due.end();
    }

    private static void feeds() {
        HangedWord x = new HangedWord();
        for (int i = 1; i <= 8; i++) {
            due.is(28, "feed " + i, x.feed(-1, 0, 1), 12 * i);
        }
        due.is(28, "the ninth", x.feed(0, 0, 0), Due.FULL);
        due.is(28, "bytes", x.count(7), 96);
        x.trim(85);
        due.is(28, "85 and 12", x.feed(0, 0, 0), Due.FULL);
        x.trim(84);
        due.is(28, "84 and 12", x.feed(0, 0, 0), 96);
        x.trim(0);
        // "fine", " 1*2", "+34 ": the highest byte of each number first.
        x.feed(0x66696E65, 0x20312A32, 0x2B333420);
        due.is(28, "a TEXT of these bytes", x.text(), 0);
        due.is(28, "what it gives", x.fine(), 36);
    }

    private static void trims() {
        HangedWord x = new HangedWord();
        due.is(29, "trim(0)", x.trim(0), 0);
        due.is(29, "trim(1)", x.trim(1), Due.BAD);
        x.feed(0x66696E65, 0x20312A32, 0x2B333420);
        due.is(29, "trim(13)", x.trim(13), Due.BAD);
        due.is(29, "trim(-1)", x.trim(-1), Due.BAD);
        due.is(29, "trim(12)", x.trim(12), 12);
        due.is(29, "trim(10)", x.trim(10), 10);
        due.is(29, "trim(11)", x.trim(11), Due.BAD);
        due.is(29, "bytes", x.count(7), 10);
        x.text();
        due.is(29, "the first ten", x.fine(), 5);
    }

    private static void usesUp() {
        HangedWord x = new HangedWord();
        due.is(30, "a TEXT", Due.text(x, "ask 1"), 0);
        due.is(30, "it is used up", x.count(7), 0);
        due.is(30, "a FAULT", Due.text(x, "ask x"), -104);
        due.is(30, "it is used up", x.count(7), 0);
        due.is(30, "an empty tape", x.text(), -100);
        due.is(30, "TEXTS", x.count(5), 1);
    }

    private static void isFull() {
        HangedWord x = new HangedWord();
        for (int i = 0; i < 14; i++) {
            due.is(30, "text " + i, Due.text(x, "fine " + i), i);
        }
        due.is(30, "the 15th", Due.text(x, "fine 99"), Due.FULL);
        due.is(30, "it is used up", x.count(7), 0);
        due.is(30, "its FAULT stands first", Due.text(x, "fine 99 9"), -108);
        due.is(30, "the empty tape too", x.text(), -100);
        due.is(30, "the last one counts", x.fine(), 13);
        due.is(32, "why(2)", x.why(2), 13);
        due.is(30, "TEXTS", x.count(5), 14);
    }

    private static void numbersAndNames() {
        HangedWord x = new HangedWord();
        Due.text(x, "ask 1");
        Due.text(x, "draw w*(n+1)-w/!22");
        Due.text(x, "fine l+k|l&k<7777");
        int[] keys = {0, 1, 2};
        int[] pieces = {1, 5, 5};
        for (int text = 0; text < 3; text++) {
            due.is(31, "KEY of " + text, x.textTold(text, 0), keys[text]);
            due.is(31, "NUMBERS and NAMES of " + text, x.textTold(text, 1), pieces[text]);
        }
        due.is(31, "textTold(3, 0)", x.textTold(3, 0), Due.BAD);
        due.is(31, "textTold(-1, 0)", x.textTold(-1, 0), Due.BAD);
        due.is(31, "textTold(0, 2)", x.textTold(0, 2), Due.BAD);
        due.is(31, "textTold(0, -1)", x.textTold(0, -1), Due.BAD);
    }

    private static void counts() {
        HangedWord x = new HangedWord();
        due.is(32, "why(3)", x.why(3), Due.BAD);
        due.is(32, "why(-1)", x.why(-1), Due.BAD);
        Due.text(x, "fine 5");
        Due.text(x, "draw 6");
        Due.text(x, "fine 7");
        due.is(32, "why(0)", x.why(0), Due.NONE);
        due.is(32, "why(1)", x.why(1), 1);
        due.is(32, "why(2)", x.why(2), 2);
        due.is(32, "the one that was told last", x.fine(), 7);
        Due.text(x, "fine 8 8");
        due.is(32, "a FAULT tells none", x.why(2), 2);
        Due.text(x, "fine ((((((((9");
        Due.text(x, "fine !!!!!!!!");
        due.is(30, "a FAULT leaves nothing behind", Due.text(x, "fine ((((((((!!!!!!!!9))))))))"), 3);
        due.is(31, "its own NUMBERS alone", x.textTold(3, 1), 1);
        due.is(32, "it counts", x.fine(), 1);
    }

    private static void gives(String text, int want) {
        HangedWord x = new HangedWord();
        due.is(30, text, Due.text(x, text), 0);
        due.is(27, text, x.fine(), want);
    }

    private static void works() {
        gives("fine 0", 0);
        gives("fine 9999", 9999);
        gives("fine 0007", 7);
        gives("fine 1+2*3", 7);
        gives("fine (1+2)*3", 9);
        gives("fine 10-3-2", 5);
        gives("fine 10-(3-2)", 9);
        gives("fine 100/10/5", 2);
        gives("fine 7*3/2", 10);
        gives("fine 7/2*3", 9);
        gives("fine 1-2+3", 2);
        gives("fine 7/2", 3);
        gives("fine (0-7)/2", -3);
        gives("fine 5/0", 0);
        gives("fine 5/(1-1)+2", 2);
        gives("fine 0/0", 0);
        gives("fine 1<2", 1);
        gives("fine 2<2", 0);
        gives("fine 3<2", 0);
        gives("fine 2>2", 0);
        gives("fine 3>2", 1);
        gives("fine 1>2", 0);
        gives("fine 2=2", 1);
        gives("fine 2=3", 0);
        gives("fine 1+1=2", 1);
        gives("fine 3=1+1", 0);
        gives("fine 2&4", 1);
        gives("fine 2&0", 0);
        gives("fine 0&2", 0);
        gives("fine 0|0", 0);
        gives("fine 0|5", 1);
        gives("fine 5|0", 1);
        gives("fine 1|0&0", 1);
        gives("fine 0&0|1", 1);
        gives("fine (1|0)&0", 0);
        gives("fine 1|1<1", 1);
        gives("fine 2&2=2", 1);
        gives("fine 0&1=0", 0);
        gives("fine !0", 1);
        gives("fine !7", 0);
        gives("fine !!7", 1);
        gives("fine !0+1", 2);
        gives("fine !(0+1)", 0);
        gives("fine !0*5", 5);
        gives("fine 6/!0", 6);
        gives("fine 5-!0", 4);
        gives("fine (1<2)<3", 1);
        gives("fine (3>2)>1", 0);
        gives("fine 0-5", -5);
        gives("fine !(0-5)", 0);
        gives("fine (0-5)|0", 1);
        gives("fine (0-5)<0", 1);
        gives("fine 9999*9999*9999", 9999 * 9999 * 9999);
        gives("fine 4096*4096*128", Due.MIN);
        gives("fine 4096*4096*128/(0-1)", Due.MIN);
        gives("fine 4096*4096*128-1", Due.MAX);
        gives("fine 4096*4096*128<0", 1);
    }

    private static void names() {
        HangedWord x = new HangedWord();
        x.word(Due.row(0, 1, 2, 3), 1);
        x.hide(0);
        x.asks(5);
        x.asks(0);
        x.asks(1);
        Due.text(x, "fine 100 * l + k");
        due.is(27, "l LINES, k how many are ASKED", x.fine(), 103);
        // Which NAMES each KEY has.
        String[] keys = {"ask", "draw", "fine"};
        String[] all = {"nwf", "wn", "lk"};
        for (int key = 0; key < 3; key++) {
            for (char name = 'a'; name <= 'z'; name++) {
                HangedWord y = new HangedWord();
                String text = keys[key] + " " + name;
                int place = keys[key].length() + 1;
                due.is(30, text, Due.text(y, text), all[key].indexOf(name) >= 0 ? 0 : -100 - place);
            }
        }
    }

    private static void wordsAndSigns() {
        gives("fine(1)", 1);
        gives("fine!1", 0);
        gives("  fine   ( 1 +  2 )  ", 3);
        gives("fine 1+2", 3);
        gives("fine 1 + 2 ", 3);
    }

    private static void fault(String text, int place) {
        HangedWord x = new HangedWord();
        due.is(30, "FAULT of '" + text + "'", Due.text(x, text), -100 - place);
        due.is(30, "no TEXT", x.count(5), 0);
        due.is(30, "THE TAPE", x.count(7), 0);
    }

    private static void faults() {
        fault("", 0);
        fault("   ", 3);
        fault("ask", 3);
        fault("ask  ", 5);
        fault("asks n", 0);
        fault("as n", 0);
        fault(" fin 1", 1);
        fault("Ask n", 0);
        fault("5", 0);
        fault("(ask n)", 0);
        fault("ask draw n", 4);
        fault("ask ask", 4);
        fault("askn", 0);
        fault("ask5", 3);
        fault("ask12345", 3);
        fault("ask 12345", 4);
        fault("ask 1+12345", 6);
        fault("ask 00001", 4);
        fault("ask n5", 5);
        fault("ask 5n", 5);
        fault("ask 5 n", 6);
        fault("ask n w", 6);
        fault("ask nw", 4);
        fault("ask na", 4);
        fault("ask nz", 4);
        fault("bsk n", 0);
        fault("aks n", 0);
        fault("asl n", 0);
        fault("eraw n", 0);
        fault("drax n", 0);
        fault("gine l", 0);
        fault("finf l", 0);
        fault("ask n+", 6);
        fault("ask n+ ", 7);
        fault("ask n+*2", 6);
        fault("ask +n", 4);
        fault("ask -1", 4);
        fault("ask n--1", 6);
        fault("ask (n", 6);
        fault("ask (n))", 7);
        fault("ask ()", 5);
        fault("ask n(1)", 5);
        fault("ask (1)(2)", 7);
        fault("ask (1)2", 7);
        fault("ask n!", 5);
        fault("ask !", 5);
        fault("ask 1<2<3", 7);
        fault("ask 1<2=3", 7);
        fault("ask 1=2>3", 7);
        fault("ask 1<", 6);
        fault("ask 1<=2", 6);
        fault("ask 1&&2", 6);
        fault("ask 1|", 6);
        fault("ask n\t", 5);
        fault("ask n" + (char) 0, 5);
        fault("ask n" + (char) 160, 5);
        fault("ask N", 4);
        fault("ask n%2", 5);
        fault("ask " + (char) 255, 4);
        fault("ask `", 4);
        fault("ask {", 4);
        fault("ask :", 4);
        fault("fine n", 5);
        fault("draw 1 fine", 7);
        gives("fine 1<2&2<3|3>4", 1);
        gives("fine (1<2)=(2<3)", 1);
    }

    private static String many(String sign, int n) {
        return new String(new char[n]).replace("\0", sign);
    }

    private static void deep() {
        gives("fine " + many("(", 8) + "6" + many(")", 8), 6);
        fault("fine " + many("(", 9) + "6" + many(")", 9), 13);
        gives("fine (1)+" + many("(", 8) + "6" + many(")", 8) + "+(1)", 8);
        gives("fine " + many("!", 8) + "6", 1);
        fault("fine " + many("!", 9) + "6", 13);
        gives("fine " + many("!", 8) + "6+" + many("!", 8) + "6", 2);
        gives("fine " + many("!(", 8) + "6" + many(")", 8), 1);
        fault("fine " + many("!(", 8) + "!6" + many(")", 8), 21);
        fault("fine " + many("!(", 8) + "(6" + many(")", 9), 21);
        fault("fine !(" + many("!", 8) + "6)", 14);
        gives("fine !(" + many("!", 7) + "6)+" + many("!", 8) + "6", 2);
        gives("fine (" + many("!", 8) + "6)*" + many("(", 8) + "6" + many(")", 8), 6);
        fault("fine " + many("(", 8) + "6" + many(")", 9), 22);
        fault("fine " + many("(", 8), 13);
        gives("fine " + many("1+", 44) + "1", 45);
        gives("fine " + many("(1)+", 22) + "1", 23);
    }

    /** What ask gives, and what of it a SCORE is. */
    private static void scoresByText() {
        HangedWord x = new HangedWord();
        x.word(Due.row(0, 1, 1, 2), 10);
        x.word(Due.row(0, 2, 2, 3), 7);
        x.asker(0, 1);
        x.asker(5, 2);
        x.asker(1, 1);
        x.hide(0);
        Due.text(x, "ask n * 1000 + w * 10 + f");
        int[] scores = {2170, 1101, 2170, 1070, 0, 0};
        for (int letter = 0; letter < 6; letter++) {
            due.is(7, "by n, w, f: " + letter, x.score(0, letter), scores[letter]);
            due.is(7, "WASTED: " + letter, x.score(1, letter), 9999 - (letter == 1 ? 1100 : letter == 2 ? 2171 : scores[letter]));
        }
        due.is(7, "FREQUENT heeds no TEXT", x.score(2, 1), 11);
        x.asks(3);
        due.is(7, "those that FIT alone", x.score(0, 0), 1100);
        Due.text(x, "ask 0 - 5 * n");
        due.is(7, "held at 0", x.score(0, 0), 0);
        due.is(7, "9999 less as ASKER", x.score(1, 0), 9999);
        Due.text(x, "ask 9999 + n");
        due.is(7, "held at 9999", x.score(0, 0), 9999);
        due.is(7, "9999 less as ASKER", x.score(1, 0), 0);
        Due.text(x, "ask w");
        due.is(6, "NEXT by it", x.told(0, 2), 0);
        x.asks(0);
        due.is(6, "NEXT by it", x.told(0, 2), 1);
        // In OPEN the words are counted that fit so: 0 (17), its class of word 0 and 1; 2 parts these.
        due.is(22, "OPEN by it", x.open(0), 0);
        due.is(19, "LINES by it", x.lines(1, 0), 0);
    }
}
