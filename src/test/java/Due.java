import java.nio.charset.StandardCharsets;

/** What the tests share: it prints each call whose answer is not the one that is due. */
final class Due {
    static final int BAD = -1000000001, NO = -1000000002, FULL = -1000000003, NONE = -1000000005, NOTHING = -1000000011, KIND = -1000000012, INDEX = -1000000013, SIZE = -1000000014;
    static final int MIN = Integer.MIN_VALUE, MAX = Integer.MAX_VALUE;

    private final String name;
    private int calls = 0;
    private int wrong = 0;

    Due(String name) {
        this.name = name;
    }

    void is(int promise, String call, long got, long want) {
        calls++;
        if (got != want) {
            wrong++;
            System.out.println(name + ", promise " + promise + ": " + call + " answered " + got + ", due is " + want);
        }
    }

    void end() {
        System.out.println(name + ": " + calls + " calls, " + wrong + " not as due");
        if (wrong != 0) {
            System.exit(1);
        }
    }

    /** Four LETTERS as one number. */
    static int row(int a, int b, int c, int d) {
        return 216 * a + 36 * b + 6 * c + d;
    }

    /** THE TAPE, empty before, becomes these bytes (96 at most); a sign above 255 can't be told. */
    static void tape(HangedWord x, String bytes) {
        byte[] all = bytes.getBytes(StandardCharsets.ISO_8859_1);
        x.trim(0);
        for (int from = 0; from < all.length; from += 12) {
            x.feed(four(all, from), four(all, from + 4), four(all, from + 8));
        }
        x.trim(all.length);
    }

    static int four(byte[] all, int from) {
        int number = 0;
        for (int i = from; i < from + 4; i++) {
            number = number << 8 | (i < all.length ? all[i] & 255 : ' ');
        }
        return number;
    }

    static int text(HangedWord x, String bytes) {
        tape(x, bytes);
        return x.text();
    }

    /** z behind one more draw, by long numbers. */
    static int nextZ(int z) {
        return (int) (z * 1103515245L + 12345L);
    }
}
