import java.lang.reflect.InvocationTargetException;
import java.lang.reflect.Method;
import java.lang.reflect.Modifier;
import java.util.ArrayList;
import java.util.Arrays;
import java.util.HashMap;
import java.util.List;
import java.util.Map;

/** A LoggerTwins that is called as the document's examples are written, and remembers its calls. */
final class Twin {
    private static final int MOST_CALLS = 512;
    private static final Map<String, Method> METHODS = new HashMap<>();

    static {
        for (Method method : LoggerTwins.class.getDeclaredMethods()) {
            if (Modifier.isPublic(method.getModifiers())) METHODS.put(method.getName(), method);
        }
    }

    private final LoggerTwins object = new LoggerTwins();
    private final List<String> calls = new ArrayList<>();

    /** The answer of a call such as "record(0, 4, MOST)". */
    long answer(String call) {
        calls.add(call);
        // The document promises nothing about later calls, so a test with more of them would test nothing.
        if (calls.size() > MOST_CALLS) throw new AssertionError("more than 512 calls: " + calls);
        String inner = call.substring(call.indexOf('(') + 1, call.indexOf(')')).trim();
        Object[] arguments = inner.isEmpty() ? new Object[0]
            : Arrays.stream(inner.split(",")).map(a -> (int) number(a.trim())).toArray();
        try {
            return ((Number) METHODS.get(call.substring(0, call.indexOf('('))).invoke(object, arguments)).longValue();
        } catch (IllegalAccessException | InvocationTargetException e) {
            throw new AssertionError(call, e);
        }
    }

    /** A number, MOST or LEAST for an int's, or the bits of a float such as 0.5f or a double such as 0.5d. */
    static long number(String text) {
        if (text.equals("MOST")) return Integer.MAX_VALUE;
        if (text.equals("LEAST")) return Integer.MIN_VALUE;
        if (text.endsWith("f")) return Float.floatToIntBits(Float.parseFloat(text));
        return text.endsWith("d") ? Double.doubleToLongBits(Double.parseDouble(text)) : Long.parseLong(text);
    }

    /** A new object after the same calls. */
    Twin again() {
        Twin made = new Twin();
        for (String call : calls) made.answer(call);
        return made;
    }

    /** All that calls can tell of the object; they change it, so it is of no use afterwards. */
    String state() {
        StringBuilder told = new StringBuilder();
        tell(told, "got()");
        tell(told, "torn()");
        for (int what = 0; what < 6; what++) tell(told, "count(" + what + ")");
        tellRecords(told);
        tellComparison(told);
        tellPatches(told);
        for (int what = 0; what < 4; what++) tell(told, "rate(" + what + ", 1)");
        for (int k = 0; k < 2; k++) {
            if (tell(told, "back(" + k + ")") >= 0) tellRecords(told);
        }
        return told.toString();
    }

    private long tell(StringBuilder told, String call) {
        long answer = answer(call);
        told.append(call).append(" = ").append(answer).append("; ");
        return answer;
    }

    private void tellRecords(StringBuilder told) {
        for (int r = 0; r < 8; r++) {
            if (tell(told, "kind(" + r + ", 0)") > 10) continue;
            tell(told, "kind(" + r + ", 1)");
            tellCells(told, r);
        }
    }

    private void tellCells(StringBuilder told, int r) {
        long size = tell(told, "size(" + r + ")");
        for (int i = 0; i < size; i++) {
            tell(told, "box(" + r + ", " + i + ")");
            tell(told, "got()");
        }
    }

    private void tellComparison(StringBuilder told) {
        if (tell(told, "result(0)") < 0) return;
        for (int what = 1; what < 10; what++) tell(told, "result(" + what + ")");
        for (int k = 0; tell(told, "step(" + k + ", 0)") >= 0; k++) tell(told, "step(" + k + ", 3)");
        for (int mode = 0; mode < 2; mode++) {
            if (tell(told, "join(0, " + mode + ")") >= 0) tellCells(told, 0);
        }
    }

    private void tellPatches(StringBuilder told) {
        for (int p = 0; p < 4; p++) {
            for (int k = 0; tell(told, "act(" + p + ", " + k + ", 0)") >= 0; k++) {
                tell(told, "act(" + p + ", " + k + ", 1)");
                tell(told, "act(" + p + ", " + k + ", 2)");
            }
        }
    }
}
