import java.io.File;
import java.io.IOException;
import java.nio.file.Files;
import java.nio.file.Path;
import java.util.HashMap;
import java.util.HashSet;
import java.util.Map;
import java.util.Set;
import java.util.regex.Matcher;
import java.util.regex.Pattern;

/** README.md: each answer that its examples tell; and that it names each call, each constant, and each test. */
public final class ReadmeTest {
    private static final String NEW = "HangedWord x = new HangedWord();";
    private static final Pattern EXAMPLE = Pattern.compile("x\\.(\\w+)\\((.*)\\); +// (-?\\w+)(: .+)?");
    private static final Pattern PROMISE = Pattern.compile("## Promise (\\d+): (\\w+)\n");
    private static final String[] CONSTANTS = {"BAD", "NO", "FULL", "NONE", "NOTHING", "KIND", "INDEX", "SIZE"};

    private static final Due due = new Due("ReadmeTest");
    private static final Map<String, Integer> promises = new HashMap<>();
    private static final Set<String> shown = new HashSet<>();
    private static final Set<String> answered = new HashSet<>();

    public static void main(String[] args) throws IOException {
        String page = Files.readString(Path.of("README.md"));
        Matcher m = PROMISE.matcher(Files.readString(Path.of("../shared/DOC.md")));
        while (m.find()) {
            promises.put(m.group(2), Integer.parseInt(m.group(1)));
        }
        examples(page);
        calls();
        constants(page);
        tests(page);
        due.end();
    }

    private static void examples(String page) {
        HangedWord x = null;
        boolean inExample = false;
        for (String line : page.split("\n")) {
            if (line.startsWith("```")) {
                inExample = line.equals("```java");
            } else if (inExample && line.equals(NEW)) {
                x = new HangedWord();
            } else if (inExample) {
                example(x, line);
            }
        }
    }

    private static void example(HangedWord x, String line) {
        Matcher m = EXAMPLE.matcher(line);
        boolean goes = m.matches() && promises.containsKey(m.group(1));
        due.is(1, "an example: " + line, goes ? 1 : 0, 1);
        if (goes) {
            Call call = Call.told(m.group(1), m.group(2).replace("HangedWord.", ""));
            due.is(promises.get(m.group(1)), line, call.on(x), Call.number(m.group(3)));
            shown.add(m.group(1));
            answered.add(m.group(3));
        }
    }

    private static void calls() {
        for (Map.Entry<String, Integer> promise : promises.entrySet()) {
            due.is(promise.getValue(), "an example of " + promise.getKey(), shown.contains(promise.getKey()) ? 1 : 0, 1);
        }
        due.is(1, "calls that have an example", shown.size(), 45);
    }

    private static void constants(String page) {
        for (String name : CONSTANTS) {
            due.is(1, "README.md tells of " + name, page.contains("`" + name + "`") ? 1 : 0, 1);
            // No short example is FULL.
            due.is(1, "an example of " + name, answered.contains(name) || name.equals("FULL") ? 1 : 0, 1);
        }
    }

    private static void tests(String page) {
        for (File file : new File("src/test/java").listFiles()) {
            String name = file.getName().replace(".java", "");
            if (name.endsWith("Test")) {
                due.is(1, "README.md tells of " + name, page.contains("`" + name + "`") ? 1 : 0, 1);
            }
        }
        Matcher m = Pattern.compile("`(\\w+Test|Bounds|Seen|Doc|Model)`").matcher(page);
        while (m.find()) {
            due.is(1, m.group(1) + " is there", new File("src/test/java/" + m.group(1) + ".java").isFile() ? 1 : 0, 1);
        }
    }
}
