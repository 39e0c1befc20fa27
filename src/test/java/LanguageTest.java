import java.io.IOException;
import java.lang.reflect.Constructor;
import java.lang.reflect.Field;
import java.lang.reflect.Method;
import java.lang.reflect.Modifier;
import java.nio.file.Files;
import java.nio.file.Path;
import java.util.ArrayList;
import java.util.Arrays;
import java.util.Collections;
import java.util.List;
import java.util.Map;
import java.util.Set;
import java.util.TreeMap;
import java.util.TreeSet;
import java.util.regex.Matcher;
import java.util.regex.Pattern;

/** The document's public face, and the rules of LANGUAGE.md as far as the class and its text show them. */
public final class LanguageTest {
    private static final String SOURCE = "src/main/java/ChoreHouse.java";
    private static final String[] FACE = {"int status()", "boolean tray(int,int,int)", "boolean write(int,int,long)",
        "long read(int,int)", "boolean pour(int,int,int,int,int)", "int person()", "int stay(int,int,int,int)",
        "boolean strike(int,int)", "int there(int,int,int)", "boolean let(int,int)", "boolean value(int,int,int)",
        "int room(int)", "boolean price(int)", "long upper()", "long lower()", "int chore()",
        "boolean mind(int,int,int)", "boolean turns(int,int)", "int whose(int)", "int burden(int)",
        "int envies(int,int)", "int swap()", "boolean take(int,int)", "boolean paid(int,int,int)",
        "long balance(int)", "int fewest()", "long plan(int,int)", "boolean settle()", "boolean part(int,int,int)",
        "int bill(int,int,int,int,int)", "boolean points(int,int)", "boolean hold(int)", "int has(int)"};
    private static final String[] RULED_OUT = {"\\bthrow\\b", "\\btry\\b", "\\bcatch\\b", "\\bsynchronized\\b", "\\bassert\\b",
        "\\bimport\\b", "\\bpackage\\b", "->", "::", "\\bdouble\\b", "\\bfloat\\b", "Exact\\b", "\\bObject\\b", "\"", "\\bstatic \\{"};

    private static final Set<String> LIBRARY = Set.of("Math.min", "Math.max", "Integer.bitCount", "System.arraycopy");
    private static final Set<String> CASTS = Set.of("int", "long", "short", "byte");
    private static final Pattern LIBRARY_CALL = Pattern.compile("\\b([A-Z][a-z]\\w*\\.[a-z]\\w*)");
    private static final Pattern CAST = Pattern.compile("\\((\\w+(?:\\[\\])*)\\) ?[\\w(]");
    private static final Pattern CALL = Pattern.compile("(?<!new )\\b([a-z]\\w*)\\(");
    private static final Pattern LOOP = Pattern.compile("for \\(int (\\w+) = [^;]+; \\1(?: \\+ 1)? (?:<|<=|>=) [^;]+; \\1(?:\\+\\+|--)\\) \\{");
    private static final Pattern HEADER = Pattern.compile(
        "^( {4}| {8})((?:public |private |static )*)(?:(?:int|long|boolean|void) )?(\\w+)\\(.*\\{$");
    private static final int DEEPEST = 8;

    private static int wrong = 0;

    public static void main(String[] args) throws IOException {
        checkFace();
        checkClasses();
        List<String> lines = withoutComments(Files.readAllLines(Path.of(SOURCE)));
        checkWords(lines);
        checkMethods(lines);
        checkLibrary(lines);
        checkLoops(lines);
        checkDepth(callsOfMethods(lines));
        System.out.println(wrong == 0 ? "the face and the language are kept" : wrong + " faults of face or language");
        if (wrong != 0) {
            System.exit(1);
        }
    }

    private static void fault(String what) {
        wrong++;
        System.out.println(what);
    }

    private static String signature(Method m) {
        StringBuilder text = new StringBuilder(m.getReturnType().getName() + " " + m.getName() + "(");
        for (int i = 0; i < m.getParameterCount(); i++) {
            text.append(i == 0 ? "" : ",").append(m.getParameterTypes()[i].getName());
        }
        return text.append(")").toString();
    }

    private static void checkFace() {
        int kind = ChoreHouse.class.getModifiers();
        if (!Modifier.isPublic(kind) || !Modifier.isFinal(kind)) {
            fault("rule 1: the class is not public and final");
        }
        Set<String> seen = new TreeSet<>();
        for (Method m : ChoreHouse.class.getDeclaredMethods()) {
            if (!Modifier.isPrivate(m.getModifiers())) {
                seen.add(signature(m) + (Modifier.isPublic(m.getModifiers()) ? "" : " not public"));
            }
        }
        if (!seen.equals(new TreeSet<>(Arrays.asList(FACE)))) {
            fault("rule 1: the face is " + seen);
        }
        for (Constructor<?> c : ChoreHouse.class.getDeclaredConstructors()) {
            if (!Modifier.isPublic(c.getModifiers()) || c.getParameterCount() != 0) {
                fault("rule 1: a constructor more: " + c);
            }
        }
        if (!ChoreHouse.class.getPackageName().isEmpty()) {
            fault("the class stands in a package");
        }
        checkNone();
        for (Field f : ChoreHouse.class.getDeclaredFields()) {
            if (!Modifier.isPrivate(f.getModifiers()) && !f.getName().equals("NONE")) {
                fault("rule 1: a field more: " + f);
            }
        }
    }

    private static void checkNone() {
        try {
            Field none = ChoreHouse.class.getDeclaredField("NONE");
            boolean isConstant = Modifier.toString(none.getModifiers()).equals("public static final") && none.getType() == int.class;
            if (!isConstant || none.getInt(null) != -1) {
                fault("rule 1: NONE is " + none);
            }
        } catch (ReflectiveOperationException e) {
            fault("rule 1: NONE: " + e);
        }
    }

    private static void checkClasses() {
        List<Class<?>> all = new ArrayList<>(Arrays.asList(ChoreHouse.class.getDeclaredClasses()));
        all.add(ChoreHouse.class);
        if (all.size() > 12) {
            fault("rule 11: too many classes");
        }
        Set<String> faceNames = new TreeSet<>();
        for (String call : FACE) {
            faceNames.add(call.substring(call.indexOf(' ') + 1, call.indexOf('(')));
        }
        for (Class<?> c : all) {
            if (c != ChoreHouse.class && (!Modifier.isStatic(c.getModifiers()) || Modifier.isPublic(c.getModifiers()))) {
                fault("rule 2: " + c);
            }
            checkFields(c);
            for (Method m : c.getDeclaredMethods()) {
                if (faceNames.contains(m.getName()) && !Modifier.isPublic(m.getModifiers())) {
                    fault("rule 1: a name of the face: " + m);
                }
                if (m.getParameterCount() > 7) {
                    fault("rule 11: too many parameters: " + m);
                }
            }
        }
    }

    private static void checkFields(Class<?> c) {
        int own = 0;
        for (Field f : c.getDeclaredFields()) {
            if (!isNumberOrRow(f.getType()) && f.getType().getEnclosingClass() != ChoreHouse.class) {
                fault("rule 3: " + f);
            }
            if (Modifier.isStatic(f.getModifiers())) {
                if (!Modifier.isFinal(f.getModifiers()) || !f.getType().isPrimitive()) {
                    fault("rule 5: " + f);
                }
            } else {
                own++;
            }
        }
        if (own > 20) {
            fault("rule 11: too many fields: " + c);
        }
    }

    /** The rules allow more; the class uses no other ones. */
    private static boolean isNumberOrRow(Class<?> type) {
        return Set.of(int.class, long.class, boolean.class, int[].class, long[].class, int[][].class, long[][].class).contains(type);
    }

    private static List<String> withoutComments(List<String> lines) {
        List<String> code = new ArrayList<>();
        boolean inComment = false;
        for (String line : lines) {
            String text = line;
            if (text.trim().startsWith("/**")) {
                inComment = true;
            }
            boolean ends = text.contains("*/");
            code.add(inComment ? "" : text.replaceAll("//.*", ""));
            if (ends) {
                inComment = false;
            }
        }
        return code;
    }

    private static void checkWords(List<String> lines) {
        for (int i = 0; i < lines.size(); i++) {
            for (String word : RULED_OUT) {
                if (Pattern.compile(word).matcher(lines.get(i)).find()) {
                    fault("line " + (i + 1) + ": ruled out: " + lines.get(i).trim());
                }
            }
            if (Pattern.compile("\\bwhile\\b").matcher(lines.get(i)).find()) {
                fault("rule 9, line " + (i + 1) + ": a loop without a counter: " + lines.get(i).trim());
            }
        }
    }

    /** Methods are short, and objects are made by constructors alone, so that calls make none. */
    private static void checkMethods(List<String> lines) {
        List<String> classes = new ArrayList<>(Collections.singletonList("ChoreHouse"));
        for (Class<?> c : ChoreHouse.class.getDeclaredClasses()) {
            classes.add(c.getSimpleName());
        }
        String method = "";
        int begin = 0;
        String indent = "";
        int found = 0;
        for (int i = 0; i < lines.size(); i++) {
            Matcher m = HEADER.matcher(lines.get(i));
            if (method.isEmpty() && m.matches()) {
                method = m.group(3);
                indent = m.group(1);
                begin = i;
                found++;
            }
            if (lines.get(i).contains("new ") && !classes.contains(method)) {
                fault("line " + (i + 1) + ": an object made outside a constructor");
            }
            if (lines.get(i).equals(indent + "}")) {
                if (i - begin >= 60) {
                    fault("rule 11: long method: " + method);
                }
                method = "";
            }
        }
        if (found < FACE.length + classes.size()) {
            fault("only " + found + " methods found in the text");
        }
    }

    private static void checkLibrary(List<String> lines) {
        for (int i = 0; i < lines.size(); i++) {
            Matcher call = LIBRARY_CALL.matcher(lines.get(i));
            while (call.find()) {
                if (!LIBRARY.contains(call.group(1))) {
                    fault("rule 4, line " + (i + 1) + ": " + call.group(1));
                }
            }
            Matcher cast = CAST.matcher(lines.get(i));
            while (cast.find()) {
                if (lines.get(i).charAt(Math.max(0, cast.start() - 1)) == ' ' && !CASTS.contains(cast.group(1))) {
                    fault("rule 6, line " + (i + 1) + ": a cast to " + cast.group(1));
                }
            }
        }
    }

    /** A counter against a bound, and nothing in the loop sets it back. */
    private static void checkLoops(List<String> lines) {
        for (int i = 0; i < lines.size(); i++) {
            String line = lines.get(i).trim();
            if (!line.startsWith("for ")) {
                continue;
            }
            Matcher loop = LOOP.matcher(line);
            if (!loop.matches()) {
                fault("rule 9, line " + (i + 1) + ": no counter against a bound: " + line);
                continue;
            }
            String indent = lines.get(i).substring(0, lines.get(i).indexOf("for"));
            Pattern set = Pattern.compile("\\b" + loop.group(1) + "(\\+\\+|--| [-+|&^]?= )");
            for (int k = i + 1; k < lines.size() && !lines.get(k).equals(indent + "}"); k++) {
                if (set.matcher(lines.get(k)).find()) {
                    fault("rule 9, line " + (k + 1) + ": the loop's counter is set: " + lines.get(k).trim());
                }
            }
        }
    }

    /** By name: methods of like names in two classes count as one that calls what both call. */
    private static Map<String, Set<String>> callsOfMethods(List<String> lines) {
        Map<String, Set<String>> calls = new TreeMap<>();
        String method = "";
        for (String line : lines) {
            Matcher header = HEADER.matcher(line);
            if (header.matches()) {
                method = header.group(3);
                calls.computeIfAbsent(method, name -> new TreeSet<>());
                continue;
            }
            Matcher call = CALL.matcher(line);
            while (call.find()) {
                calls.computeIfAbsent(method, name -> new TreeSet<>()).add(call.group(1));
            }
        }
        return calls;
    }

    private static void checkDepth(Map<String, Set<String>> calls) {
        for (String method : calls.keySet()) {
            int depth = depthOf(method, calls, 0);
            if (depth > DEEPEST) {
                fault("rules 8 and 11: calls go " + depth + " deep, or call themselves, from " + method);
            }
        }
    }

    /** The library's own counts as one more; what calls itself comes to the limit. */
    private static int depthOf(String method, Map<String, Set<String>> calls, int above) {
        int deepest = 0;
        if (above <= DEEPEST) {
            for (String called : calls.getOrDefault(method, Set.of())) {
                deepest = Math.max(deepest, depthOf(called, calls, above + 1));
            }
        }
        return deepest + 1;
    }
}
