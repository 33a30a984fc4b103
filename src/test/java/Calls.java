import java.lang.reflect.InvocationTargetException;
import java.lang.reflect.Method;
import java.lang.reflect.Modifier;
import java.util.Arrays;
import java.util.HashMap;
import java.util.Map;
import java.util.regex.Matcher;
import java.util.regex.Pattern;

/** Calls told as texts, "cut(3, 0)", so that a test reads as a run of calls; MOST and LEAST are the ends of int. */
final class Calls {
    private static final Pattern CALL = Pattern.compile("(\\w+)\\(([^)]*)\\)");
    private static final Pattern ROW = Pattern.compile("(\\w+\\([^)]*\\)) = (-?\\w+)");
    private static final Map<String, Method> FACE = new HashMap<>();

    static {
        for (Method method : RaftForest.class.getDeclaredMethods()) {
            if (Modifier.isPublic(method.getModifiers())) {
                FACE.put(method.getName(), method);
            }
        }
    }

    private Calls() {
    }

    /** A call with the answer that is due. */
    record Row(String call, long due) {
        static Row of(String text) {
            Matcher row = ROW.matcher(text);
            if (!row.matches()) {
                throw new IllegalArgumentException("not a row: " + text);
            }
            return new Row(row.group(1), number(row.group(2)));
        }
    }

    /** What a call answers; a boolean counts 1 or 0. */
    static long answer(RaftForest forest, String text) {
        Matcher call = CALL.matcher(text);
        if (!call.matches() || !FACE.containsKey(call.group(1))) {
            throw new IllegalArgumentException("not a call: " + text);
        }
        String[] told = call.group(2).isBlank() ? new String[0] : call.group(2).split(",");
        Object[] arguments = new Object[told.length];
        for (int i = 0; i < told.length; i++) {
            arguments[i] = number(told[i].trim());
        }
        return answer(forest, call.group(1), arguments);
    }

    static long answer(RaftForest forest, String name, Object... arguments) {
        try {
            Object answer = FACE.get(name).invoke(forest, arguments);
            return answer instanceof Boolean truth ? truth ? 1 : 0 : (Integer) answer;
        } catch (InvocationTargetException | IllegalAccessException thrown) {
            throw new IllegalStateException(name + Arrays.toString(arguments) + " threw", thrown);
        }
    }

    /** Calls whose answers are not asked. */
    static RaftForest run(RaftForest forest, String... calls) {
        for (String call : calls) {
            answer(forest, call);
        }
        return forest;
    }

    private static int number(String text) {
        return switch (text) {
            case "MOST" -> Integer.MAX_VALUE;
            case "LEAST" -> Integer.MIN_VALUE;
            case "NONE" -> RaftForest.NONE;
            case "true" -> 1;
            case "false" -> 0;
            default -> Integer.decode(text);
        };
    }
}
