import java.util.ArrayList;
import java.util.List;

/** All that can be seen of an object, call by call; the object is used up by it. */
final class Seen {
    private static final int MOST_CALLS = 512;

    private final HangedWord x = new HangedWord();
    private final List<String> seen = new ArrayList<>();
    private int made = 0;

    private Seen() {
    }

    /** What is seen behind these calls on a new object. */
    static List<String> behind(List<Call> calls) {
        Seen s = new Seen();
        for (Call call : calls) {
            s.make(call);
        }
        s.all();
        return s.seen;
    }

    private int make(Call call) {
        made++;
        if (made > MOST_CALLS) {
            throw new IllegalStateException("more than " + MOST_CALLS + " calls on one object");
        }
        return call.on(x);
    }

    private int see(String name, int... given) {
        Call call = new Call(name, given);
        int answer = make(call);
        seen.add(call + " = " + Call.nameOf(answer));
        return answer;
    }

    private void all() {
        state(true);
        for (int slot = 0; slot < 5; slot++) {
            slot(slot);
        }
        sheets();
        see("check", 0, Math.max(1, Math.min(20, x.count(6) / 2)));
        see("text");
        see("fine");
        see("why", 0);
        if (see("back") != Due.NO) {
            state(false);
        }
    }

    private void state(boolean whole) {
        for (int what = 0; what <= 8; what++) {
            see("count", what);
        }
        for (int what = 0; what <= (whole ? 6 : 2); what++) {
            see("game", what);
        }
        for (int word = 0; word < x.count(0); word++) {
            see("wordTold", word, 0);
            see("wordTold", word, 1);
        }
        for (int asker = 0; asker < x.count(1); asker++) {
            see("told", asker, 0);
            see("told", asker, 1);
            see("score", asker, whole ? 1 : 0);
        }
        for (int text = 0; text < (whole ? x.count(5) : 0); text++) {
            see("textTold", text, 0);
            see("textTold", text, 1);
        }
        for (int key = 0; key < 3; key++) {
            see("why", key);
        }
        see("fine");
        see("behind", 0, 3, 1);
    }

    private void slot(int slot) {
        if (see("ask", slot, 0) != Due.KIND) {
            see("ask", slot, 1);
            see("ask", slot, 2);
        } else if (see("rest", slot, 100003) == Due.KIND) {
            row(slot);
        }
    }

    private void row(int slot) {
        int place = 0;
        while (see("item", slot, place) != Due.INDEX) {
            place++;
        }
    }

    /** The sorts are told by which can be copied to which; the last of them is made one of floats. */
    private void sheets() {
        for (int sheet = 0; sheet < 4; sheet++) {
            if (see("lay", 4, 2, sheet) != Due.NOTHING) {
                row(4);
            }
        }
        for (int sheet = 0; sheet < 3; sheet++) {
            see("copy", sheet, 0, sheet + 1, 0, 0);
        }
        see("sheet", 3, 1, 0);
        see("copy", 2, 0, 3, 0, 0);
    }
}
