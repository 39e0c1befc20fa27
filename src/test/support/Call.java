import java.lang.reflect.InvocationTargetException;
import java.lang.reflect.Method;
import java.util.HashMap;
import java.util.List;
import java.util.Map;

/**
 * One call of the class, told as text: "stay(0, 0, 9, 0)". The words least and most stand for the ends
 * of what the argument's type can hold. As text, so that a test can do the same calls on another object.
 */
final class Call {
    /** What a call that threw counts as: no call may throw, and none answers this. */
    static final long THREW = Long.MIN_VALUE + 7_777_777L;

    private static final Map<String, Call> KNOWN = new HashMap<>();
    private static final Map<String, Method> FACE = new HashMap<>();
    private static final List<String> QUESTIONS = List.of("status", "upper", "lower", "read", "there", "room", "whose", "burden",
        "envies", "balance", "fewest", "plan", "bill", "has");

    private final String text;
    private final Method method;
    private final Object[] arguments;

    private Call(String text) {
        this.text = text;
        int open = text.indexOf('(');
        method = methodOf(text.substring(0, open));
        String between = text.substring(open + 1, text.length() - 1).trim();
        String[] words = between.isEmpty() ? new String[0] : between.split(",");
        Class<?>[] types = method.getParameterTypes();
        if (words.length != types.length) {
            throw new IllegalStateException("the test's own fault: " + text);
        }
        arguments = new Object[words.length];
        for (int i = 0; i < words.length; i++) {
            arguments[i] = argument(words[i].trim(), types[i]);
        }
    }

    static Call of(String text) {
        return KNOWN.computeIfAbsent(text, Call::new);
    }

    /** A boolean counts 1 or 0. */
    long on(ChoreHouse house) {
        try {
            Object answer = method.invoke(house, arguments);
            return answer instanceof Boolean ? ((Boolean) answer ? 1 : 0) : ((Number) answer).longValue();
        } catch (InvocationTargetException e) {
            Bounds.fault(text + " threw " + e.getCause());
            return THREW;
        } catch (IllegalAccessException e) {
            throw new IllegalStateException(e);
        }
    }

    /** "gives NONE, or false". */
    long whenRefused() {
        return method.getReturnType() == boolean.class ? 0 : ChoreHouse.NONE;
    }

    boolean hasStatus() {
        return !List.of("status", "upper", "lower").contains(method.getName());
    }

    boolean onlyAsks() {
        return QUESTIONS.contains(method.getName());
    }

    private static Method methodOf(String name) {
        if (FACE.isEmpty()) {
            for (Method m : ChoreHouse.class.getDeclaredMethods()) {
                FACE.put(m.getName(), m);
            }
        }
        if (!FACE.containsKey(name)) {
            throw new IllegalStateException("the test's own fault: no call " + name);
        }
        return FACE.get(name);
    }

    private static Object argument(String word, Class<?> type) {
        boolean isLong = type == long.class;
        long number;
        if (word.equals("least")) {
            number = isLong ? Long.MIN_VALUE : Integer.MIN_VALUE;
        } else if (word.equals("most")) {
            number = isLong ? Long.MAX_VALUE : Integer.MAX_VALUE;
        } else {
            number = Long.parseLong(word);
        }
        return isLong ? (Object) number : (Object) Math.toIntExact(number);
    }
}
