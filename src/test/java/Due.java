import java.lang.reflect.InvocationTargetException;
import java.lang.reflect.Method;
import java.util.Arrays;

/** Runs calls that are written as in the document's examples, and tells each answer that is not as due. */
final class Due {
    private final String subject;
    private int answers;
    private int wrong;
    private String part = "";
    private LoggerTwins object = new LoggerTwins();

    Due(String subject) {
        this.subject = subject;
    }

    /** What follows is about this part, on a new object. */
    void begin(String name) {
        part = name;
        object = new LoggerTwins();
    }

    void is(String what, long got, long want) {
        answers++;
        if (got == want) return;
        wrong++;
        System.out.println(part + ": " + what + " answered " + got + ", due is " + want);
    }

    void holds(String what, boolean so) {
        is(what, so ? 1 : 0, 1);
    }

    /** Calls on the object of this part, such as "record(0, 4, 3) = 1; size(0) = 3". */
    void calls(String run) {
        for (String row : run.split(";")) {
            String[] sides = row.split("=");
            String call = sides[0].trim();
            is(call, answerOf(call), Long.parseLong(sides[1].trim()));
        }
    }

    /** Makes an array of a kind in a record, its cells such as "4:10 9:0": what lay takes for each. */
    void makes(int r, int kind, String cells) {
        String[] all = cells.isEmpty() ? new String[0] : cells.split(" ");
        is("record(" + r + ", " + kind + ", " + all.length + ")", object.record(r, kind, all.length), 1);
        for (int i = 0; i < all.length; i++) {
            String[] sides = all[i].split(":");
            int laid = object.lay(r, i, Integer.parseInt(sides[0]), Integer.parseInt(sides[1]));
            is("lay(" + r + ", " + i + ", " + all[i] + ")", laid, 1);
        }
    }

    /** The cells of a record, such as "4:10 9:0": sort and amount of each. */
    void cells(int r, String cells) {
        String[] all = cells.isEmpty() ? new String[0] : cells.split(" ");
        is("size(" + r + ")", object.size(r), all.length);
        for (int i = 0; i < all.length; i++) {
            String[] sides = all[i].split(":");
            is("box(" + r + ", " + i + ")", object.box(r, i), Long.parseLong(sides[0]));
            is("got() of cell " + i + " of " + r, object.got(), Long.parseLong(sides[1]));
        }
    }

    long answerOf(String call) {
        String name = call.substring(0, call.indexOf('('));
        String inner = call.substring(call.indexOf('(') + 1, call.indexOf(')')).trim();
        Object[] arguments = inner.isEmpty() ? new Object[0]
            : Arrays.stream(inner.split(",")).map(a -> Integer.valueOf(a.trim())).toArray();
        Class<?>[] types = new Class<?>[arguments.length];
        Arrays.fill(types, int.class);
        try {
            Method method = LoggerTwins.class.getMethod(name, types);
            return ((Number) method.invoke(object, arguments)).longValue();
        } catch (NoSuchMethodException | IllegalAccessException | InvocationTargetException e) {
            throw new AssertionError(part + ": " + call, e);
        }
    }

    void end() {
        System.out.println(subject + ": " + answers + " answers, " + wrong + " not as due");
        if (wrong != 0) System.exit(1);
    }
}
