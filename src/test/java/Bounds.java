import java.io.IOException;
import java.nio.charset.StandardCharsets;
import java.util.ArrayList;
import java.util.List;
import java.util.Set;
import java.util.regex.Matcher;
import java.util.regex.Pattern;

/**
 * Tests told as text. Each names a promise, a sentence of the document, and steps on a new object of its own:
 *   call(a, b)              made; it must not be refused
 *   call(a, b) = v          made, and v is due (a number, or one of Call's names)
 *   12 * call(a, b)         made so many times
 *   tape 'bytes'            THE TAPE becomes these bytes
 *   text 'bytes' = v        the same, and text()
 * parted by "; ". Of each call that is refused, and of each that is only thought, it is seen, too, that nothing changes
 * (but the tape and the numbers that wait, where the document says so): two objects have the same calls behind them,
 * one of them this one, too, and all that can be seen of them must be the same.
 */
final class Bounds {
    private static final Pattern STEP = Pattern.compile(
        "\\G\\s*(?:(\\d+) \\* )?(?:(text|tape) '([^']*)'|(\\w+)\\(([^)]*)\\))(?: = (-?\\w+))?(?:;|$)");
    private static final Set<Integer> REFUSED = Set.of(Due.BAD, Due.NO, Due.FULL, Due.NOTHING, Due.KIND, Due.INDEX, Due.SIZE);
    private static final Set<String> THOUGHT = Set.of("wordTold", "told", "score", "as", "game", "lines", "worst", "even", "open",
        "best", "sure", "behind", "askedBy", "fine", "textTold", "why", "reads", "ask", "item", "rest", "check", "count");

    private final Doc doc = new Doc();
    private int tests = 0;
    private int wrong = 0;

    private String name = "";
    private HangedWord x = null;
    private int calls = 0;
    /** The calls that changed anything, and what is seen behind them (null: not yet looked at). */
    private List<Call> changes = new ArrayList<>();
    private List<String> seen = null;

    Bounds() throws IOException {
    }

    void test(int promise, String sentence, String... lines) {
        tests++;
        name = "promise " + promise + ", '" + sentence + "': ";
        if (!doc.says(promise, sentence)) {
            fail("the document doesn't say so");
        }
        x = new HangedWord();
        calls = 0;
        changes = new ArrayList<>();
        seen = null;
        for (String line : lines) {
            steps(line);
        }
    }

    /**
     * Tests of one number of a call, which stands as ? in it: least and most are not refused, each by itself; what is one
     * below and one above, and what is far below and above, is refused so.
     */
    void bound(int promise, String sentence, String ahead, String call, int least, int most, String below, String above) {
        test(promise, sentence, ahead, call.replace("?", "" + least));
        test(promise, sentence, ahead, call.replace("?", "" + most));
        for (int v : new int[] {least - 1, least - 256, Due.MIN}) {
            test(promise, sentence, ahead, call.replace("?", "" + v) + " = " + below);
        }
        for (int v : new int[] {most + 1, most + 256, Due.MAX}) {
            test(promise, sentence, ahead, call.replace("?", "" + v) + " = " + above);
        }
    }

    /** The same, where both are BAD. */
    void bound(int promise, String sentence, String ahead, String call, int least, int most) {
        bound(promise, sentence, ahead, call, least, most, "BAD", "BAD");
    }

    /** How many tests failed. */
    int end() {
        for (String sentence : doc.unnamed()) {
            name = "";
            fail("no test names " + sentence);
        }
        System.out.println("BoundsTest: " + tests + " tests, " + wrong + " not as due");
        return wrong;
    }

    private void fail(String what) {
        wrong++;
        System.out.println(name + what);
    }

    private void steps(String line) {
        Matcher m = STEP.matcher(line);
        int end = 0;
        while (end < line.length() && m.find()) {
            int times = m.group(1) == null ? 1 : Integer.parseInt(m.group(1));
            for (int i = 0; i < times; i++) {
                Integer due = m.group(6) == null ? null : Call.number(m.group(6));
                if (m.group(2) == null) {
                    make(Call.told(m.group(4), m.group(5)), due);
                } else {
                    tape(m.group(3));
                    if (m.group(2).equals("text")) {
                        make(new Call("text"), due);
                    }
                }
            }
            end = m.end();
        }
        if (end != line.length()) {
            fail("these are no steps: " + line);
        }
    }

    private void tape(String bytes) {
        byte[] all = bytes.getBytes(StandardCharsets.ISO_8859_1);
        make(new Call("trim", 0), 0);
        for (int from = 0; from < all.length; from += 12) {
            make(new Call("feed", Due.four(all, from), Due.four(all, from + 4), Due.four(all, from + 8)), from + 12);
        }
        make(new Call("trim", all.length), all.length);
    }

    private void make(Call call, Integer due) {
        int answer = call.on(x);
        calls++;
        // seed refuses nothing, whatever z was.
        boolean refused = REFUSED.contains(answer) && !call.name.equals("seed");
        if (due == null ? refused : answer != due) {
            fail(call + " answered " + Call.nameOf(answer) + (due == null ? "" : ", due is " + Call.nameOf(due)));
        }
        if (calls > 512) {
            fail("more than 512 calls");
        }
        if (refused || THOUGHT.contains(call.name)) {
            List<Call> with = new ArrayList<>(changes);
            with.add(call);
            useUp(call);
            same(call, Seen.behind(with));
        } else {
            changes.add(call);
            seen = null;
        }
    }

    /** What a call changes though it is refused: the numbers that wait, the tape. */
    private void useUp(Call call) {
        if (call.name.equals("check") && changes.removeIf(change -> change.name.equals("tell"))) {
            seen = null;
        }
        if (call.name.equals("text")) {
            changes.add(new Call("trim", 0));
            seen = null;
        }
    }

    private void same(Call call, List<String> got) {
        if (seen == null) {
            seen = Seen.behind(changes);
        }
        for (int i = 0; i < Math.max(seen.size(), got.size()); i++) {
            String was = i < seen.size() ? seen.get(i) : "nothing";
            String is = i < got.size() ? got.get(i) : "nothing";
            if (!was.equals(is)) {
                fail(call + " changed something: without it " + was + ", with it " + is);
                return;
            }
        }
    }
}
