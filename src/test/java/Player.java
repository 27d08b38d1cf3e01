import java.lang.reflect.InvocationTargetException;
import java.lang.reflect.Method;
import java.util.HashMap;
import java.util.Map;

/**
 * An object that is told by a text what to do. A text has steps with blanks between them: {@code walk(0,1)} is a
 * call, {@code minutes(24)*4} four of them, {@code t2,0;} a tape that is fed and read as a LINE, {@code !t9,0;} one
 * that has a FAULT, {@code <t2,} bytes that are fed and not read.
 */
final class Player {
    /** What an object answers behind so many calls is free, so no test may go beyond. */
    private static final int MOST_CALLS = 512;
    private static final Map<String, Method> METHODS = new HashMap<>();
    private static final Map<String, Integer> NAMES = Map.of("MIN", Integer.MIN_VALUE, "MAX", Integer.MAX_VALUE,
        "NONE", -1000000, "BAD", -1000001, "STATE", -1000002, "FULL", -1000003);
    private static final Map<String, Integer> FINDINGS = Map.of("NULL", -1000011, "PLACE", -1000012,
        "KIND", -1000013, "SIZE", -1000014, "STORE", -1000015);

    static {
        for (Method method : TramFaith.class.getDeclaredMethods()) {
            METHODS.put(method.getName() + "/" + method.getParameterCount(), method);
        }
    }

    private final TramFaith x = new TramFaith();
    private int calls;

    Player(String scene) {
        for (String step : scene.split(" ")) {
            if (!step.isEmpty()) {
                take(step);
            }
        }
    }

    /** A number, or the name of one: BAD, PLACE, MAX and their like. */
    static int numberOf(String text) {
        String name = text.trim();
        if (NAMES.containsKey(name)) {
            return NAMES.get(name);
        }
        return FINDINGS.containsKey(name) ? FINDINGS.get(name) : Integer.parseInt(name);
    }

    int callsLeft() {
        return MOST_CALLS - calls;
    }

    private void take(String step) {
        if (step.contains("(")) {
            int star = step.indexOf('*');
            int times = star < 0 ? 1 : Integer.parseInt(step.substring(star + 1));
            for (int k = 0; k < times; k++) {
                call(star < 0 ? step : step.substring(0, star));
            }
        } else if (step.startsWith("<")) {
            feed(step.substring(1));
        } else {
            boolean isFault = step.startsWith("!");
            feed(isFault ? step.substring(1) : step);
            if (call("line()") < 0 != isFault) {
                throw new IllegalStateException("the test's own text is not as meant: " + step);
            }
        }
    }

    void feed(String bytes) {
        for (char c : bytes.toCharArray()) {
            call("feed(" + (int) c + ")");
        }
    }

    /** What a call, written as in Java, answers. */
    int call(String text) {
        if (++calls > MOST_CALLS) {
            throw new IllegalStateException("a test goes beyond " + MOST_CALLS + " calls at " + text);
        }
        int open = text.indexOf('(');
        String told = text.substring(open + 1, text.indexOf(')'));
        String[] parts = told.isBlank() ? new String[0] : told.split(",");
        Object[] arguments = new Object[parts.length];
        for (int i = 0; i < parts.length; i++) {
            arguments[i] = numberOf(parts[i]);
        }
        try {
            return (int) METHODS.get(text.substring(0, open).trim() + "/" + parts.length).invoke(x, arguments);
        } catch (InvocationTargetException thrown) {
            throw new IllegalStateException(text + " threw " + thrown.getCause(), thrown.getCause());
        } catch (ReflectiveOperationException wrong) {
            throw new IllegalStateException(text, wrong);
        }
    }
}
