import java.util.List;

/** Promises 1 to 46: long runs of calls by lot, each answer set against Model. The same runs come each time. */
public final class ModelTest {
    private static final int RUNS = 300, CALLS = 512;
    private static final int[] EDGES = {-1, 0, 1, 24, 25, 12, 13, 8, 9, 60, Integer.MAX_VALUE, Integer.MIN_VALUE, -1000000005, 99, 100, 32768, 99999, 100000, -99999, -100000};

    private static long lot;
    private static int wrong = 0;
    private static int calls;
    private static StringBuilder run;
    private static HangedWord x;
    private static Model m;

    public static void main(String[] args) {
        for (int r = 0; r < RUNS && wrong < 5; r++) {
            oneRun(r);
        }
        System.out.println("ModelTest: " + RUNS + " runs, " + wrong + " not as due");
        if (wrong != 0) {
            System.exit(1);
        }
    }

    private static int any(int n) {
        lot = lot * 6364136223846793005L + 1442695040888963407L;
        return (int) ((lot >>> 33) % n);
    }

    /** Mostly from 0 to n (n is out of it, as a rule); seldom an edge. */
    private static int about(int n) {
        return any(25) == 0 ? EDGES[any(EDGES.length)] : any(12) == 0 ? n : any(n);
    }

    /** From 0 to n - 1, seldom just n. */
    private static int within(int n) {
        return any(40) == 0 ? n : any(n);
    }

    private static void due(String call, int got, int want) {
        calls++;
        if (run.length() < 40000) {
            run.append(call).append(" = ").append(got).append('\n');
        }
        if (got != want && wrong < 5) {
            wrong++;
            String all = run.toString();
            System.out.println(all.substring(Math.max(0, all.length() - 1500)));
            System.out.println("ModelTest: " + call + " answered " + got + ", due is " + want);
        }
    }

    private static void oneRun(int r) {
        lot = 77777L * r + 5;
        x = new HangedWord();
        m = new Model();
        run = new StringBuilder();
        calls = 0;
        int before = wrong;
        if (any(8) != 0) {
            begin();
        }
        while (calls < CALLS - 70 && wrong == before) {
            switch (any(8)) {
                case 0: case 1: wordsAskers(); break;
                case 2: case 3: game(); break;
                case 4: ahead(); break;
                case 5: texts(); break;
                case 6: sheetsSlots(); break;
                default: rowsImages(); break;
            }
        }
    }

    private static void begin() {
        int few = any(3);
        for (int i = any(10); i >= 0; i--) {
            word(few == 0 ? any(1296) : Due.row(any(3 + few), any(2 + few), any(3), any(6)), 1 + any(few == 1 ? 4 : 99));
        }
        for (int i = any(6); i >= 0; i--) {
            int kind = any(6);
            int first = any(6);
            due("asker(" + kind + ", " + first + ")", x.asker(kind, first), m.asker(kind, first));
        }
        int v = any(1 << 30);
        due("seed(" + v + ")", x.seed(v), m.seed(v));
    }

    private static void word(int letters, int weight) {
        due("word(" + letters + ", " + weight + ")", x.word(letters, weight), m.word(letters, weight));
    }

    private static void wordsAskers() {
        int a = about(9);
        int b = about(6);
        switch (any(12)) {
            case 0: word(any(9) == 0 ? about(1296) : Due.row(any(3), any(3), any(6), any(6)), about(100)); break;
            case 1: a = about(12); b = within(4); due("wordTold(" + a + ", " + b + ")", x.wordTold(a, b), m.wordTold(a, b)); break;
            case 2: a = about(12); b = about(100); due("weigh(" + a + ", " + b + ")", x.weigh(a, b), m.weigh(a, b)); break;
            case 3: due("asker(" + b + ", " + a + ")", x.asker(b, a), m.asker(b, a)); break;
            case 4: b = within(4); due("told(" + a + ", " + b + ")", x.told(a, b), m.told(a, b)); break;
            case 5: case 6: a = within(4); due("score(" + a + ", " + b + ")", x.score(a, b), m.score(a, b)); break;
            case 7: due("as(" + a + ", " + b + ")", x.as(a, b), m.as(a, b)); break;
            case 8: a = within(5); due("turns(" + a + ", " + b + ")", x.turns(a, b), m.turns(a, b)); break;
            case 9: a = within(5); due("first(" + a + ", " + b + ")", x.first(a, b), m.first(a, b)); break;
            case 10: a = any(4) == 0 ? about(13) : 1; due("deal(" + a + ")", x.deal(a), m.deal(a)); break;
            default: a = any(3) == 0 ? EDGES[any(EDGES.length)] : any(1 << 30); due("seed(" + a + ")", x.seed(a), m.seed(a)); break;
        }
    }

    private static void game() {
        int a = about(6);
        switch (any(10)) {
            case 0: a = about(10); due("hide(" + a + ")", x.hide(a), m.hide(a)); break;
            case 1: case 2: case 3: due("asks(" + a + ")", x.asks(a), m.asks(a)); break;
            case 4: due("play(" + a + ")", x.play(a), m.play(a)); break;
            case 5: due("choose()", x.choose(), m.choose()); break;
            case 6: a = any(3) == 0 ? about(10) : 6; due("gallows(" + a + ")", x.gallows(a), m.gallows(a)); break;
            default: a = within(7); due("game(" + a + ")", x.game(a), m.game(a)); break;
        }
    }

    private static void ahead() {
        int a = within(5);
        int b = about(10);
        int c = within(2);
        switch (any(10)) {
            case 0: due("lines(" + b + ", " + a + ")", x.lines(b, a), m.lines(b, a)); break;
            case 1: due("worst(" + a + ", " + c + ")", x.worst(a, c), m.worst(a, c)); break;
            case 2: due("even(" + a + ")", x.even(a), m.even(a)); break;
            case 3: case 4: due("open(" + a + ")", x.open(a), m.open(a)); break;
            case 5: due("best(" + c + ")", x.best(c), m.best(c)); break;
            case 6: due("sure()", x.sure(), m.sure()); break;
            case 7: b = any(6) == 0 ? about(31) : any(6); due("behind(" + a + ", " + b + ", " + c + ")", x.behind(a, b, c), m.behind(a, b, c)); break;
            case 8: askedBy(c); break;
            default: due("fine()", x.fine(), m.fine()); break;
        }
    }

    private static void mark(int sheet, int place, int v) {
        due("mark(" + sheet + ", " + place + ", " + v + ")", x.mark(sheet, place, v), m.mark(sheet, place, v));
    }

    private static void sheet(int sheet, int sort, int n) {
        due("sheet(" + sheet + ", " + sort + ", " + n + ")", x.sheet(sheet, sort, n), m.sheet(sheet, sort, n));
    }

    /** Mostly a sheet that nearly tells what an asker would ask. */
    private static void askedBy(int what) {
        int sheet = within(4);
        if (any(3) != 0) {
            sheet(sheet, any(2), any(8));
            String order = m.order(any(4));
            for (int k = 0; k < order.length(); k++) {
                mark(sheet, k, any(4) == 0 ? any(8) - 1 : order.charAt(k) - '0');
            }
            mark(sheet, any(8), Model.NONE);
        }
        due("askedBy(" + sheet + ", " + what + ")", x.askedBy(sheet, what), m.askedBy(sheet, what));
        due("askedBy(" + sheet + ", " + (1 - what) + ")", x.askedBy(sheet, 1 - what), m.askedBy(sheet, 1 - what));
    }

    // ---- texts by lot

    private static String expression(String names, int deep) {
        int sort = any(deep <= 0 ? 2 : 10);
        if (sort == 0) {
            return any(3) == 0 ? "" + any(12000) : "" + any(12);
        }
        if (sort == 1) {
            return "" + names.charAt(any(names.length()));
        }
        if (sort == 2) {
            return "!" + expression(names, deep - 1);
        }
        if (sort == 3 || sort == 4) {
            return "(" + expression(names, deep - 1) + ")";
        }
        String sign = "" + "|&<=>+-*/+-*/".charAt(any(13));
        return expression(names, deep - 1) + sign + expression(names, deep - 1);
    }

    private static String blanks(String text) {
        StringBuilder b = new StringBuilder();
        for (int i = 0; i < text.length(); i++) {
            b.append(text.charAt(i));
            b.append(any(12) == 0 ? " " : "");
        }
        return b.toString();
    }

    private static String textByLot() {
        int key = any(3);
        String names = new String[] {"nwf", "wn", "lk"}[key];
        String text = new String[] {"ask", "draw", "fine"}[key] + (any(10) == 0 ? "" : " ");
        if (any(12) == 0) {
            return text + "(!(!".substring(0, 1 + any(4)).repeat(1 + any(9)) + names.charAt(0) + ")".repeat(any(12));
        }
        text += any(5) == 0 ? blanks(expression(names, 3)) : expression(names, 1 + any(4));
        if (any(4) == 0) {
            int at = any(text.length());
            text = text.substring(0, at) + "askfdrwinel kn0123456789!()|&<=>+-*/ A~".charAt(any(39)) + text.substring(at + any(2));
        }
        if (any(12) == 0) {
            text = text.substring(0, any(text.length() + 1));
        }
        return any(6) == 0 ? " " + text + "  " : text;
    }

    private static void texts() {
        int a = about(14);
        int b = within(2);
        switch (any(8)) {
            case 0: due("textTold(" + a + ", " + b + ")", x.textTold(a, b), m.textTold(a, b)); break;
            case 1: a = within(3); due("why(" + a + ")", x.why(a), m.why(a)); break;
            case 2: feed(any(3) == 0 ? textByLot() : "fine 1 + k       "); break;
            case 3: a = about(96); due("trim(" + a + ")", x.trim(a), m.trim(a)); break;
            case 4: due("text()", x.text(), m.text()); break;
            default: wholeText(); break;
        }
    }

    private static void wholeText() {
        String text = textByLot();
        due("trim(0)", x.trim(0), m.trim(0));
        feed(text);
        int n = Math.min(96, text.length());
        due("trim(" + n + ")", x.trim(n), m.trim(n));
        due("text() of '" + text + "'", x.text(), m.text());
        due("fine()", x.fine(), m.fine());
        due("score(0, 1)", x.score(0, 1), m.score(0, 1));
    }

    private static void feed(String text) {
        for (int from = 0; from < text.length(); from += 12) {
            int[] f = new int[3];
            for (int i = 0; i < 12; i++) {
                f[i / 4] = f[i / 4] << 8 | (from + i < text.length() ? text.charAt(from + i) : ' ');
            }
            due("feed(" + f[0] + ", " + f[1] + ", " + f[2] + ")", x.feed(f[0], f[1], f[2]), m.feed(f[0], f[1], f[2]));
        }
    }

    // ---- sheets, slots

    private static void sheetsSlots() {
        int a = within(4);
        int b = within(3);
        int c = about(13);
        switch (any(14)) {
            case 0: sheet(a, any(9) == 0 ? about(2) : any(2), about(25)); break;
            case 1: case 2: mark(a, about(8), any(4) == 0 ? EDGES[any(EDGES.length)] : any(120) - 10); break;
            case 3: due("pour(" + a + ")", x.pour(a), m.pour(a)); break;
            case 4: due("reads(" + a + ", " + b + ")", x.reads(a, b), m.reads(a, b)); break;
            case 5: linesTold(a, b); break;
            case 6: case 7: copy(); break;
            case 8: a = within(5); b = within(4); c = b == 3 ? c : within(5); due("lay(" + a + ", " + b + ", " + c + ")", x.lay(a, b, c), m.lay(a, b, c)); break;
            case 9: c = about(6); due("ask(" + a + ", " + c + ")", x.ask(a, c), m.ask(a, c)); break;
            case 10: case 11: due("item(" + a + ", " + c + ")", x.item(a, c), m.item(a, c)); break;
            default: c = about(4) - 2; due("rest(" + a + ", " + c + ")", x.rest(a, c), m.rest(a, c)); break;
        }
    }

    private static void copy() {
        int from = any(30) == 0 ? about(4) : any(4);
        int to = any(30) == 0 ? about(4) : any(4);
        int place = about(8);
        int at = about(8);
        int many = about(6);
        due("copy(" + from + ", " + place + ", " + to + ", " + at + ", " + many + ")", x.copy(from, place, to, at, many), m.copy(from, place, to, at, many));
    }

    /** Mostly a sheet that nearly tells the lines of all words. */
    private static void linesTold(int sheet, int asker) {
        int n = m.count(0) + any(3) - 1;
        sheet(sheet, any(2), n);
        for (int k = 0; k < n; k++) {
            int lines = m.lines(k, asker);
            mark(sheet, k, any(20) == 0 ? any(6) : lines);
        }
        due("reads(" + sheet + ", " + asker + ")", x.reads(sheet, asker), m.reads(sheet, asker));
    }

    // ---- rows, images

    private static void rowsImages() {
        int a = within(4);
        int b = any(6) == 0 ? about(21) : 1 + any(6);
        switch (any(7)) {
            case 0: due("tell(" + b + ")", x.tell(b), m.tell(b)); break;
            case 1: a = about(8); due("check(" + a + ", " + b + ")", x.check(a, b), m.check(a, b)); break;
            case 2: gamesTold(a, b); break;
            case 3: due("keep()", x.keep(), m.keep()); break;
            case 4: due("back()", x.back(), m.back()); break;
            default: a = within(9); due("count(" + a + ")", x.count(a), m.count(a)); break;
        }
    }

    private static void gamesTold(int asker, int n) {
        List<Integer> told = n < 1 || n > 20 ? null : m.gamesTold(asker, n);
        if (told == null) {
            return;
        }
        due("check(-1, 1)", x.check(-1, 1), m.check(-1, 1));
        int many = any(5) == 0 ? any(told.size() + 1) : told.size();
        int other = any(3) == 0 ? any(told.size()) : -1;
        for (int i = 0; i < many; i++) {
            int v = i == other ? any(6) - 1 : told.get(i);
            due("tell(" + v + ")", x.tell(v), m.tell(v));
        }
        if (any(8) == 0) {
            due("tell(0)", x.tell(0), m.tell(0));
        }
        due("check(" + asker + ", " + n + ")", x.check(asker, n), m.check(asker, n));
    }
}
