import java.lang.reflect.Method;
import java.util.ArrayList;
import java.util.Arrays;
import java.util.HashMap;
import java.util.List;
import java.util.Map;
import java.util.Random;

/** Random runs of calls on a LoggerTwins and on the Model: every answer must be the same. */
public final class RandomRunsTest {
    private static final int RUNS = 2000;
    private static final int MOST_SHOWN = 10;

    /** A method and what its arguments are: see argument. */
    private record Call(String name, String shape, int weight) { }

    private static final Call[] CALLS = {
        new Call("record", "rKn", 6), new Call("share", "rr", 3), new Call("kind", "rw", 1), new Call("size", "r", 1),
        new Call("ask", "rik", 4), new Call("box", "ri", 6), new Call("got", "", 1), new Call("put", "risv", 8),
        new Call("lay", "riSv", 10), new Call("fill", "rinsv", 5), new Call("move", "ririn", 6),
        new Call("torn", "", 2), new Call("sum", "rk", 5), new Call("rate", "4t", 4), new Call("like", "riri", 8),
        new Call("compare", "rr", 12), new Call("result", "9", 6), new Call("step", "iw", 6),
        new Call("join", "rw", 8), new Call("near", "r", 1), new Call("lag", "rr", 4), new Call("vote", "rrrr", 6),
        new Call("patch", "p", 6), new Call("turn", "p", 3), new Call("act", "piw", 5), new Call("apply", "pr", 10),
        new Call("log", "rrkx", 8), new Call("draw", "rSnx", 12), new Call("keep", "2", 1), new Call("back", "2", 1),
        new Call("count", "6", 2)};

    private final Random random;
    private final int records;
    private final int cells;
    private final int oneKind;
    private final LoggerTwins twin = new LoggerTwins();
    private final Model model = new Model();
    private final List<String> told = new ArrayList<>();

    private RandomRunsTest(long seed) {
        random = new Random(seed);
        // Few records and cells, and often one kind for all of a run, bring about what many would hide.
        records = 2 + random.nextInt(7);
        cells = 1 + random.nextInt(20);
        oneKind = random.nextInt(22);
    }

    private static Map<String, Method> methodsOf(Class<?> type) {
        Map<String, Method> found = new HashMap<>();
        for (Call call : CALLS) {
            Class<?>[] types = new Class<?>[call.shape.length()];
            Arrays.fill(types, int.class);
            try {
                found.put(call.name, type.getMethod(call.name, types));
            } catch (NoSuchMethodException e) {
                throw new AssertionError(e);
            }
        }
        return found;
    }

    private static final Map<String, Method> TWIN = methodsOf(LoggerTwins.class);
    private static final Map<String, Method> MODEL = methodsOf(Model.class);

    private int strange() {
        int[] some = {-1, -2, 7, 8, 9, 10, 11, 12, 13, 19, 20, 21, 99, 100, Integer.MAX_VALUE, Integer.MIN_VALUE};
        return some[random.nextInt(some.length)];
    }

    private int number() {
        switch (random.nextInt(8)) {
            case 0: return random.nextInt();
            case 1: return (random.nextInt(5) - 2) << random.nextInt(32);
            case 2: return Integer.MAX_VALUE - random.nextInt(100);
            default: return random.nextInt(12) - 4;
        }
    }

    private int kindUpTo(int most) {
        return oneKind <= most && random.nextInt(4) > 0 ? oneKind : random.nextInt(most + 1);
    }

    private int argument(char shape) {
        if (shape != 'v' && shape != 'x' && random.nextInt(60) == 0) return strange();
        switch (shape) {
            case 'r': return random.nextInt(Math.min(8, records));
            case 'K': return random.nextInt(8) == 0 ? 11 + random.nextInt(2) : kindUpTo(10);
            case 'k': case 's': return kindUpTo(7);
            case 'S': return kindUpTo(10);
            case 'i': return random.nextInt(cells);
            case 'n': return random.nextInt(Math.min(21, cells + 2));
            case 'w': return random.nextInt(4);
            case 't': return random.nextInt(random.nextInt(6) == 0 ? 100 : 10);
            case 'p': return random.nextInt(4);
            case 'v': return number();
            case 'x': return random.nextInt();
            default: return random.nextInt(shape - '0' + 1);
        }
    }

    private Call anyCall() {
        int all = 0;
        for (Call call : CALLS) all += call.weight;
        int chosen = random.nextInt(all);
        for (Call call : CALLS) {
            chosen -= call.weight;
            if (chosen < 0) return call;
        }
        throw new AssertionError();
    }

    private boolean same(String name, Integer... arguments) throws Exception {
        Object due = MODEL.get(name).invoke(model, (Object[]) arguments);
        Object got = TWIN.get(name).invoke(twin, (Object[]) arguments);
        told.add(name + Arrays.toString(arguments) + " = " + got);
        if (due.equals(got)) return true;
        told.add("due is " + due);
        return false;
    }

    private boolean randomCallIsSame() throws Exception {
        Call call = anyCall();
        Integer[] arguments = new Integer[call.shape.length()];
        for (int i = 0; i < arguments.length; i++) arguments[i] = argument(call.shape.charAt(i));
        if (!same(call.name, arguments)) return false;
        return random.nextInt(3) > 0 || same("got") && same("torn");
    }

    private boolean wholeStateIsSame() throws Exception {
        for (int r = 0; r < 8; r++) {
            if (!same("kind", r, 0) || !same("kind", r, 1) || !same("size", r)) return false;
            for (int i = 0; i < model.size(r); i++) {
                if (!same("box", r, i) || !same("got")) return false;
            }
        }
        for (int what = 0; what < 6; what++) {
            if (!same("count", what)) return false;
        }
        return true;
    }

    /** The document promises the first 512 calls; half of the runs save some to look at all that they left. */
    private boolean run() throws Exception {
        boolean looksAtAll = random.nextBoolean();
        int most = 512 - 3 - (looksAtAll ? 8 * (3 + 2 * 20) + 6 : 0);
        while (told.size() < most) {
            if (!randomCallIsSame()) return false;
        }
        return !looksAtAll || wholeStateIsSame();
    }

    public static void main(String[] args) throws Exception {
        int wrong = 0;
        for (int seed = 0; seed < RUNS && wrong < MOST_SHOWN; seed++) {
            RandomRunsTest test = new RandomRunsTest(seed);
            if (test.run()) continue;
            wrong++;
            System.out.println("run " + seed + ": " + String.join("; ", test.told));
        }
        System.out.println(wrong == 0 ? RUNS + " random runs are as due" : wrong + " random runs are not as due");
        if (wrong != 0) System.exit(1);
    }
}
