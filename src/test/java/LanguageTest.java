import java.io.IOException;
import java.lang.reflect.Field;
import java.lang.reflect.Member;
import java.lang.reflect.Method;
import java.lang.reflect.Modifier;
import java.nio.file.Files;
import java.nio.file.Path;
import java.util.ArrayList;
import java.util.Arrays;
import java.util.List;
import java.util.Set;
import java.util.TreeSet;
import java.util.regex.Matcher;
import java.util.regex.Pattern;

/** The face of the class, and what of LANGUAGE.md can be seen from the class and from the text of its file. */
public final class LanguageTest {
    private static final String[] FACE = {
        "word 2", "wordTold 2", "weigh 2", "asker 2", "told 2", "score 2", "as 2", "turns 2", "first 2", "deal 1", "seed 1",
        "hide 1", "asks 1", "play 1", "choose 0", "gallows 1", "game 1",
        "lines 2", "worst 2", "even 1", "open 1", "best 1", "sure 0", "behind 3", "askedBy 2", "fine 0",
        "feed 3", "trim 1", "text 0", "textTold 2", "why 1",
        "sheet 3", "mark 3", "pour 1", "reads 2", "copy 5", "lay 3", "ask 2", "item 2", "rest 2",
        "tell 1", "check 2", "keep 0", "back 0", "count 1"};
    private static final String[] CONSTANTS = {"BAD", "NO", "FULL", "NONE", "NOTHING", "KIND", "INDEX", "SIZE"};
    private static final int[] VALUES = {-1000000001, -1000000002, -1000000003, -1000000005, -1000000011, -1000000012, -1000000013, -1000000014};
    private static final String[] NEVER = {"throw", "throws", "try", "catch", "finally", "synchronized", "assert", "import", "package",
        "Object", "hashCode", "toString", "System.out", "System.exit", "Random", "Thread", "->", "::", "Exact", "float", "double", "\" +", "+ \""};

    private static final Due due = new Due("LanguageTest");

    public static void main(String[] args) throws Exception {
        face();
        constants();
        members();
        file();
        due.end();
    }

    private static void face() {
        Set<String> want = new TreeSet<>(Arrays.asList(FACE));
        Set<String> got = new TreeSet<>();
        for (Method m : HangedWord.class.getDeclaredMethods()) {
            if (Modifier.isPublic(m.getModifiers())) {
                boolean ints = Arrays.stream(m.getParameterTypes()).allMatch(t -> t == int.class) && m.getReturnType() == int.class;
                got.add(m.getName() + " " + (ints ? m.getParameterCount() : -1));
            }
        }
        due.is(1, "the methods " + got, got.equals(want) ? 1 : 0, 1);
        due.is(1, "constructors", HangedWord.class.getDeclaredConstructors().length, 1);
        due.is(1, "the constructor", HangedWord.class.getConstructors().length, 1);
        due.is(1, "public and final", HangedWord.class.getModifiers() & (Modifier.PUBLIC | Modifier.FINAL), Modifier.PUBLIC | Modifier.FINAL);
    }

    private static void constants() throws Exception {
        for (int i = 0; i < CONSTANTS.length; i++) {
            due.is(1, CONSTANTS[i], HangedWord.class.getField(CONSTANTS[i]).getInt(null), VALUES[i]);
        }
        due.is(1, "no other constants", HangedWord.class.getFields().length, CONSTANTS.length);
    }

    private static boolean isPrivateOrPublic(Member m) {
        return m.isSynthetic() || (m.getModifiers() & (Modifier.PRIVATE | Modifier.PUBLIC)) != 0;
    }

    private static void members() {
        Set<String> face = new TreeSet<>();
        for (String name : FACE) {
            face.add(name.split(" ")[0]);
        }
        for (Method m : HangedWord.class.getDeclaredMethods()) {
            due.is(1, "rule 1: " + m, isPrivateOrPublic(m) ? 1 : 0, 1);
            due.is(1, "rule 1, its name: " + m, Modifier.isPrivate(m.getModifiers()) && face.contains(m.getName()) ? 1 : 0, 0);
        }
        List<Class<?>> classes = new ArrayList<>(Arrays.asList(HangedWord.class.getDeclaredClasses()));
        due.is(1, "rule 11: classes", classes.size() <= 11 ? 1 : 0, 1);
        for (Class<?> c : classes) {
            due.is(1, "rule 2: " + c, Modifier.isStatic(c.getModifiers()) && !Modifier.isPublic(c.getModifiers()) ? 1 : 0, 1);
            for (Method m : c.getDeclaredMethods()) {
                due.is(1, "rule 1, its name: " + m, face.contains(m.getName()) ? 1 : 0, 0);
            }
        }
        classes.add(HangedWord.class);
        for (Class<?> c : classes) {
            int own = 0;
            for (Field f : c.getDeclaredFields()) {
                boolean constant = Modifier.isStatic(f.getModifiers());
                own += constant ? 0 : 1;
                due.is(1, "rule 5: " + f, !constant || Modifier.isFinal(f.getModifiers()) ? 1 : 0, 1);
            }
            due.is(1, "rule 11: fields of " + c, own <= 20 ? 1 : 0, 1);
        }
        for (Field f : HangedWord.class.getDeclaredFields()) {
            due.is(1, "rule 1: " + f, isPrivateOrPublic(f) ? 1 : 0, 1);
        }
    }

    private static void file() throws IOException {
        String text = Files.readString(Path.of("src/main/java/HangedWord.java"));
        String code = text.replaceAll("(?s)/\\*.*?\\*/", "").replaceAll("//[^\n]*", "");
        for (String word : NEVER) {
            boolean letters = Character.isLetter(word.charAt(0));
            Matcher m = Pattern.compile(letters ? "\\b" + Pattern.quote(word) + "\\b" : Pattern.quote(word)).matcher(code);
            due.is(1, "LANGUAGE.md: " + word, m.find() ? 1 : 0, 0);
        }
        due.is(1, "signs of constants", code.chars().allMatch(c -> c < 127) ? 1 : 0, 1);
        int from = -1;
        String[] lines = text.split("\n");
        for (int i = 0; i < lines.length; i++) {
            boolean head = lines[i].matches(" {4,8}[a-zA-Z][^=;]*\\(.*\\) \\{");
            from = head ? i : from;
            if (head) {
                due.is(1, "rule 11: parameters of " + lines[i].trim(), lines[i].split(",").length <= 7 ? 1 : 0, 1);
            }
            if (from >= 0 && lines[i].matches(" {4,8}\\}")) {
                due.is(1, "rule 11: lines of " + lines[from].trim(), i - from <= 60 ? 1 : 0, 1);
                from = -1;
            }
        }
    }
}
