import java.lang.reflect.Method;
import java.util.ArrayList;
import java.util.HashMap;
import java.util.List;
import java.util.Map;

/** An object of LetterCrew on which calls are made that are told as text: "send(0, 8)". */
final class Caller {
    /** What later calls answer is free. */
    static final int MOST_CALLS = 512;
    private static final Map<String, Method> METHODS = methods();

    private final LetterCrew x = new LetterCrew();
    int calls = 0;

    private static Map<String, Method> methods() {
        Map<String, Method> methods = new HashMap<>();
        for (Method m : LetterCrew.class.getMethods()) {
            if (m.getDeclaringClass() == LetterCrew.class) {
                methods.put(m.getName(), m);
            }
        }
        return methods;
    }

    static String nameOf(String call) {
        return call.substring(0, call.indexOf('('));
    }

    long answer(String call) {
        int open = call.indexOf('(');
        if (open < 0 || !call.endsWith(")")) {
            throw new IllegalArgumentException("not a call: " + call);
        }
        Method m = METHODS.get(call.substring(0, open));
        if (m == null) {
            throw new IllegalArgumentException("no such call: " + call);
        }
        List<Object> arguments = new ArrayList<>();
        for (String text : call.substring(open + 1, call.length() - 1).split(",")) {
            if (!text.isBlank()) {
                arguments.add(argument(text.trim()));
            }
        }
        calls++;
        try {
            return ((Number) m.invoke(x, arguments.toArray())).longValue();
        } catch (ReflectiveOperationException e) {
            throw new IllegalArgumentException(call + " threw " + e.getCause(), e);
        }
    }

    private static Object argument(String text) {
        switch (text) {
            case "true": return true;
            case "false": return false;
            case "MIN": return Integer.MIN_VALUE;
            case "MAX": return Integer.MAX_VALUE;
            default: return Integer.parseInt(text);
        }
    }
}
