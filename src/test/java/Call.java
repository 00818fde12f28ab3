import java.lang.reflect.InvocationTargetException;
import java.lang.reflect.Method;
import java.util.Arrays;
import java.util.HashMap;
import java.util.Map;
import java.util.stream.Collectors;

/** A call told as text, such as "word(w0123, 10)", that can be made on any object. */
final class Call {
    private static final Map<String, Method> METHODS = new HashMap<>();
    private static final Map<String, Integer> NAMED = Map.of("MIN", Due.MIN, "MAX", Due.MAX, "BAD", Due.BAD, "NO", Due.NO,
        "FULL", Due.FULL, "NONE", Due.NONE, "NOTHING", Due.NOTHING, "KIND", Due.KIND, "INDEX", Due.INDEX, "SIZE", Due.SIZE);
    /** What 1103515245 takes to 1, by ints. */
    private static final int DRAW_BACK = (int) 4005161829L;

    static {
        for (Method m : HangedWord.class.getMethods()) {
            METHODS.put(m.getName() + " " + m.getParameterCount(), m);
        }
    }

    final String name;
    private final int[] given;

    Call(String name, int... given) {
        this.name = name;
        this.given = given;
    }

    static Call told(String name, String given) {
        String[] parts = given.isBlank() ? new String[0] : given.split(",");
        return new Call(name, Arrays.stream(parts).mapToInt(part -> number(part.trim())).toArray());
    }

    /** w0123: LETTERS 0 1 2 3; 0x1f: by sixteens; d7: the z whose next draw gives 7; e7: the z whose next draw but one gives 7. */
    static int number(String told) {
        if (NAMED.containsKey(told)) {
            return NAMED.get(told);
        }
        if (told.startsWith("0x")) {
            return Integer.parseUnsignedInt(told.substring(2), 16);
        }
        int tail = Integer.parseInt(Character.isLetter(told.charAt(0)) ? told.substring(1) : told);
        switch (told.charAt(0)) {
            case 'w': return Due.row(tail / 1000, tail / 100 % 10, tail / 10 % 10, tail % 10);
            case 'd': return before(tail << 8);
            case 'e': return before(before(tail << 8));
            default: return tail;
        }
    }

    private static int before(int z) {
        return (z - 12345) * DRAW_BACK;
    }

    int on(HangedWord x) {
        Method m = METHODS.get(name + " " + given.length);
        if (m == null) {
            throw new IllegalArgumentException("there is no call " + this);
        }
        try {
            return (Integer) m.invoke(x, Arrays.stream(given).boxed().toArray());
        } catch (InvocationTargetException e) {
            throw new IllegalStateException(this + " threw", e.getCause());
        } catch (IllegalAccessException e) {
            throw new IllegalStateException(e);
        }
    }

    @Override
    public String toString() {
        return name + Arrays.stream(given).mapToObj(Call::nameOf).collect(Collectors.joining(", ", "(", ")"));
    }

    static String nameOf(int number) {
        for (Map.Entry<String, Integer> named : NAMED.entrySet()) {
            if (named.getValue() == number) {
                return named.getKey();
            }
        }
        return "" + number;
    }
}
