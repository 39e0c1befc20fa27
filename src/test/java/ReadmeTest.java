import java.io.IOException;
import java.lang.reflect.Method;
import java.lang.reflect.Modifier;
import java.nio.file.Files;
import java.nio.file.Path;
import java.util.HashMap;
import java.util.Map;
import java.util.Set;
import java.util.TreeSet;
import java.util.regex.Matcher;
import java.util.regex.Pattern;

/** The examples of README.md: each call answers what stands behind it, and each call of the face has one. */
public final class ReadmeTest {
    private static final String NEW_HOUSE = "ChoreHouse house = new ChoreHouse();";
    private static final Pattern EXAMPLE = Pattern.compile("(?:int (\\w+) = )?house\\.(\\w+)\\((.*)\\);\\s*// (true|false|-?\\d+)(?!\\w).*");
    private static final Pattern WORD = Pattern.compile("[A-Za-z]\\w*");

    private static final Map<String, Long> NAMES = new HashMap<>();
    private static final Set<String> SHOWN = new TreeSet<>();
    private static ChoreHouse house = null;
    private static int examples = 0;
    private static int wrong = 0;

    public static void main(String[] args) throws IOException {
        boolean inExample = false;
        for (String line : Files.readAllLines(Path.of("README.md"))) {
            if (line.startsWith("```")) {
                inExample = line.equals("```java");
                house = null;
            } else if (inExample) {
                look(line);
            }
        }
        lookForCallsNotShown();
        System.out.println(wrong == 0 ? examples + " lines of README.md hold" : wrong + " faults in README.md");
        if (wrong != 0) {
            System.exit(1);
        }
    }

    private static void fault(String what) {
        wrong++;
        System.out.println("README.md: " + what);
    }

    private static void look(String line) {
        if (line.equals(NEW_HOUSE)) {
            house = new ChoreHouse();
            NAMES.clear();
            return;
        }
        Matcher example = EXAMPLE.matcher(line);
        if (house == null || !example.matches()) {
            fault("no example that can be looked at: " + line);
            return;
        }
        examples++;
        SHOWN.add(example.group(2));
        long got = Call.of(example.group(2) + "(" + withNumbers(example.group(3)) + ")").on(house);
        if (got != number(example.group(4))) {
            fault("the answer is " + got + " to " + line);
        }
        if (example.group(1) != null) {
            NAMES.put(example.group(1), got);
        }
    }

    private static String withNumbers(String arguments) {
        return WORD.matcher(arguments).replaceAll(word -> String.valueOf(NAMES.get(word.group())));
    }

    private static long number(String due) {
        if (due.equals("true")) {
            return 1;
        }
        return due.equals("false") ? 0 : Long.parseLong(due);
    }

    private static void lookForCallsNotShown() {
        for (Method call : ChoreHouse.class.getDeclaredMethods()) {
            if (Modifier.isPublic(call.getModifiers()) && !SHOWN.contains(call.getName())) {
                fault("no example of " + call.getName());
            }
        }
    }
}
