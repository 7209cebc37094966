import java.lang.reflect.Array;
import java.math.BigInteger;
import java.util.ArrayList;
import java.util.HashMap;
import java.util.HashSet;
import java.util.IdentityHashMap;
import java.util.List;
import java.util.Map;
import java.util.Objects;

/**
 * A second LoggerTwins, written from the document over real Java arrays and java.lang.reflect.Array. It
 * shares no code and no representation with the first, so that a mistake in one of them shows as a
 * difference.
 */
public final class Model {
    static final int BAD = -1, STATE = -2, FULL = -3, NONE = -4;

    static final class Tag {
        final int number;

        Tag(int number) {
            this.number = number;
        }
    }

    /** Thrown where the document names a fault. */
    static final class Fault extends RuntimeException {
        private static final long serialVersionUID = 1L;
        final int number;

        Fault(int number) {
            this.number = number;
        }

        int answer() {
            return -10 - number;
        }
    }

    record Step(int step, int left, int right, int cost, String verdict) { }

    record Path(int cost, String steps) { }

    record Act(int act, Object old, Object fresh) { }

    static final String[] TEXTS = {"", "a", "bc", "def", "ghij"};
    static final Class<?>[] ELEMENTS = {boolean.class, byte.class, char.class, short.class, int.class, long.class,
        float.class, double.class, Tag.class, Object.class, String.class};
    static final Class<?>[] BOXES = {Boolean.class, Byte.class, Character.class, Short.class, Integer.class,
        Long.class, Float.class, Double.class, Tag.class, Void.class, String.class};

    private Object[] held = new Object[8];
    private final Object[][] images = new Object[2][];
    private final List<List<Act>> patches = new ArrayList<>(java.util.Collections.nCopies(4, null));
    private final int[] rates = {0, 3, 2, 1};
    private Object left, right;
    private List<Step> steps;
    private long amount;
    private int torn;

    // ---- cells

    static Object newArray(int kind, int n) {
        return Array.newInstance(ELEMENTS[kind], n);
    }

    static int kindOf(Object array) {
        for (int k = 0; k < ELEMENTS.length; k++) {
            if (array.getClass().getComponentType() == ELEMENTS[k]) return k;
        }
        throw new AssertionError("no kind");
    }

    static int sortOf(Object cell) {
        if (cell == null) return 9;
        for (int k = 0; k < BOXES.length; k++) {
            if (cell.getClass() == BOXES[k]) return k;
        }
        throw new AssertionError("no sort");
    }

    static Object valueOf(int sort, int v) {
        switch (sort) {
            case 0: return v % 2 != 0;
            case 1: return (byte) v;
            case 2: return (char) v;
            case 3: return (short) v;
            case 4: return v;
            case 5: return (long) v;
            case 6: return (float) v * 0.125f;
            case 7: return v * 0.125;
            case 8: return new Tag(v);
            case 9: return null;
            default: return TEXTS[Math.floorMod(v, 5)];
        }
    }

    static long amountOf(Object cell) {
        switch (sortOf(cell)) {
            case 0: return (Boolean) cell ? 1 : 0;
            case 2: return (Character) cell;
            case 6: return Float.floatToIntBits((Float) cell);
            case 7: return Double.doubleToLongBits((Double) cell);
            case 8: return ((Tag) cell).number;
            case 9: return 0;
            case 10: return java.util.Arrays.asList(TEXTS).indexOf(cell);
            default: return ((Number) cell).longValue();
        }
    }

    /** The cell as java.lang.reflect.Array converts it, or fault 5. */
    static Object converted(Object cell, int kind) {
        Object one = newArray(kind, 1);
        try {
            Array.set(one, 0, cell);
        } catch (IllegalArgumentException | NullPointerException e) {
            throw new Fault(5);
        }
        return Array.get(one, 0);
    }

    static boolean fits(Object cell, int kind) {
        try {
            converted(cell, kind);
            return true;
        } catch (Fault f) {
            return false;
        }
    }

    private static int leastThatBothFit(int a, int b) {
        for (int k = 0; k < 8; k++) {
            if (fits(valueOf(a, 0), k) && fits(valueOf(b, 0), k)) return k;
        }
        return -1;
    }

    private static final int[][] JOINS = new int[8][8];

    static {
        for (int a = 0; a < 8; a++) {
            for (int b = 0; b < 8; b++) JOINS[a][b] = leastThatBothFit(a, b);
        }
    }

    static int joinOf(int a, int b) {
        return JOINS[a][b];
    }

    static int joinOfCells(Object a, Object b) {
        return sortOf(a) > 7 || sortOf(b) > 7 ? -1 : joinOf(sortOf(a), sortOf(b));
    }

    static int like(Object a, Object b, int tolerance) {
        if (a instanceof Tag s && b instanceof Tag t) return s.number == t.number ? 0 : 2;
        if (a == null && b == null || a instanceof String && Objects.equals(a, b)) return 0;
        int join = joinOfCells(a, b);
        if (join < 0) return 2;
        Object x = converted(a, join);
        Object y = converted(b, join);
        if (join == 0) return x.equals(y) ? 0 : 2;
        if (join < 6) {
            BigInteger apart = BigInteger.valueOf(amountOf(x)).subtract(BigInteger.valueOf(amountOf(y))).abs();
            if (apart.signum() == 0) return 0;
            return apart.compareTo(BigInteger.valueOf(tolerance)) <= 0 ? 1 : 2;
        }
        double p = ((Number) x).doubleValue();
        double q = ((Number) y).doubleValue();
        if (p == q) return 0;
        return Math.abs(p - q) <= tolerance ? 1 : 2;
    }

    static Object mean(Object a, Object b, int join) {
        Object x = converted(a, join);
        Object y = converted(b, join);
        if (join == 0) return (Boolean) x && (Boolean) y;
        if (join == 6) return noMinusZero(((Float) x + (Float) y) * 0.5f);
        if (join == 7) return noMinusZero(((Double) x + (Double) y) * 0.5);
        BigInteger sum = BigInteger.valueOf(amountOf(x)).add(BigInteger.valueOf(amountOf(y)));
        return ofWhole(join, sum.shiftRight(1).longValueExact());
    }

    static Float noMinusZero(float x) {
        return x == 0 ? 0f : x;
    }

    static Double noMinusZero(double x) {
        return x == 0 ? 0.0 : x;
    }

    static Object ofWhole(int sort, long x) {
        switch (sort) {
            case 1: return (byte) x;
            case 2: return (char) x;
            case 3: return (short) x;
            case 4: return (int) x;
            default: return x;
        }
    }

    static Object falsified(Object cell) {
        int sort = sortOf(cell);
        if (sort == 0) return !(Boolean) cell;
        if (sort == 6) return (Float) cell + 1f;
        if (sort == 7) return (Double) cell + 1.0;
        return ofWhole(sort, amountOf(cell) + 1);
    }

    static Object arrayOf(int kind, List<Object> cells) {
        Object made = newArray(kind, cells.size());
        for (int i = 0; i < cells.size(); i++) Array.set(made, i, converted(cells.get(i), kind));
        return made;
    }

    static Object copyOf(Object array) {
        Object made = newArray(kindOf(array), Array.getLength(array));
        System.arraycopy(array, 0, made, 0, Array.getLength(array));
        return made;
    }

    private static boolean out(int x, int least, int most) {
        return x < least || x > most;
    }

    private static boolean isArray(Object what) {
        return what != null && what.getClass().isArray();
    }

    private Object array(int r) {
        if (held[r] == null) throw new Fault(1);
        if (held[r] instanceof Tag) throw new Fault(2);
        return held[r];
    }

    private Object cell(int r, int i) {
        Object array = array(r);
        if (i < 0 || i >= Array.getLength(array)) throw new Fault(3);
        return Array.get(array, i);
    }

    private void write(int r, int i, Object cell, boolean asNumber) {
        cell(r, i);
        if (asNumber && kindOf(array(r)) > 7) throw new Fault(4);
        Array.set(array(r), i, converted(cell, kindOf(array(r))));
    }

    private Object read(int r, int i, int kind) {
        Object cell = cell(r, i);
        if (kindOf(array(r)) > 7) throw new Fault(4);
        return converted(cell, kind);
    }

    // ---- the face

    public int record(int r, int kind, int n) {
        if (out(r, 0, 7) || out(kind, 0, 12) || kind <= 10 && n > 20) return BAD;
        if (kind <= 10 && n < 0) return -16;
        held[r] = kind == 12 ? null : kind == 11 ? new Tag(n) : newArray(kind, n);
        return 1;
    }

    public int share(int r, int s) {
        if (out(r, 0, 7) || out(s, 0, 7)) return BAD;
        held[r] = held[s];
        return 1;
    }

    public int kind(int r, int what) {
        if (out(r, 0, 7) || out(what, 0, 1)) return BAD;
        if (what == 0) return held[r] == null ? 12 : held[r] instanceof Tag ? 11 : kindOf(held[r]);
        for (int s = 0; s < 8; s++) {
            if (isArray(held[r]) && held[s] == held[r]) return s;
        }
        return NONE;
    }

    public int size(int r) {
        if (out(r, 0, 7)) return BAD;
        try {
            return Array.getLength(array(r));
        } catch (Fault f) {
            return f.answer();
        }
    }

    public int ask(int r, int i, int kind) {
        if (out(r, 0, 7) || out(kind, 0, 7)) return BAD;
        try {
            amount = amountOf(read(r, i, kind));
            return 1;
        } catch (Fault f) {
            return f.answer();
        }
    }

    public int box(int r, int i) {
        if (out(r, 0, 7)) return BAD;
        try {
            Object cell = cell(r, i);
            amount = amountOf(cell);
            return sortOf(cell);
        } catch (Fault f) {
            return f.answer();
        }
    }

    public long got() {
        return amount;
    }

    public int put(int r, int i, int sort, int v) {
        if (out(r, 0, 7) || out(sort, 0, 7)) return BAD;
        try {
            write(r, i, valueOf(sort, v), true);
            return 1;
        } catch (Fault f) {
            return f.answer();
        }
    }

    public int lay(int r, int i, int sort, int v) {
        if (out(r, 0, 7) || out(sort, 0, 10)) return BAD;
        try {
            write(r, i, valueOf(sort, v), false);
            return 1;
        } catch (Fault f) {
            return f.answer();
        }
    }

    public int fill(int r, int i, int n, int sort, int v) {
        if (out(r, 0, 7) || out(n, 0, 20) || out(sort, 0, 7)) return BAD;
        torn = 0;
        int done = 0;
        try {
            while (done < n) {
                write(r, i + done, valueOf(sort, v), true);
                done++;
            }
        } catch (Fault f) {
            torn = f.number;
        }
        return done;
    }

    public int move(int r, int i, int s, int j, int n) {
        if (out(r, 0, 7) || out(s, 0, 7) || out(n, 0, 20)) return BAD;
        torn = 0;
        int done = 0;
        try {
            while (done < n) {
                write(r, i + done, cell(s, j + done), false);
                done++;
            }
        } catch (Fault f) {
            torn = f.number;
        }
        return done;
    }

    public int torn() {
        return torn;
    }

    public int sum(int r, int kind) {
        if (out(r, 0, 7) || out(kind, 1, 7)) return BAD;
        try {
            int n = Array.getLength(array(r));
            long wholes = 0;
            float floats = 0;
            double doubles = 0;
            for (int i = 0; i < n; i++) {
                Object cell = read(r, i, kind);
                if (kind < 6) wholes += amountOf(cell);
                if (kind == 6) floats += (Float) cell;
                if (kind == 7) doubles += (Double) cell;
            }
            amount = kind < 6 ? wholes : kind == 6 ? amountOf(floats) : amountOf(doubles);
            return 1;
        } catch (Fault f) {
            return f.answer();
        }
    }

    public int rate(int what, int v) {
        if (out(what, 0, 3)) return BAD;
        int[][] ranges = {{0, 99}, {1, 9}, {1, 9}, {0, 9}};
        if (out(v, ranges[what][0], ranges[what][1])) return BAD;
        int before = rates[what];
        rates[what] = v;
        return before;
    }

    public int like(int a, int i, int b, int j) {
        if (out(a, 0, 7) || out(b, 0, 7)) return BAD;
        try {
            Object x = cell(a, i);
            return like(x, cell(b, j), rates[0]);
        } catch (Fault f) {
            return f.answer();
        }
    }

    // ---- alignments

    private static boolean twice(Object array, int i) {
        return i > 0 && like(Array.get(array, i), Array.get(array, i - 1), 0) == 0;
    }

    private int aloneCost(Object array, int i) {
        return rates[twice(array, i) ? 3 : 2];
    }

    private int pairCost(Object x, int i, Object y, int j) {
        return new int[] {0, 1, rates[1]}[like(Array.get(x, i), Array.get(y, j), rates[0])];
    }

    private static Path lesser(Path p, int cost, int step, Path rest) {
        Path q = new Path(cost + rest.cost, step + rest.steps);
        if (p == null || q.cost < p.cost) return q;
        return q.cost == p.cost && q.steps.compareTo(p.steps) < 0 ? q : p;
    }

    private Path best(Object x, int i, Object y, int j, Map<Integer, Path> known) {
        int n = Array.getLength(x);
        int m = Array.getLength(y);
        if (i == n && j == m) return new Path(0, "");
        Path p = known.get(i * 100 + j);
        if (p != null) return p;
        if (j < m) p = lesser(p, aloneCost(y, j), 2, best(x, i, y, j + 1, known));
        if (i < n) p = lesser(p, aloneCost(x, i), 1, best(x, i + 1, y, j, known));
        if (i < n && j < m) p = lesser(p, pairCost(x, i, y, j), 0, best(x, i + 1, y, j + 1, known));
        known.put(i * 100 + j, p);
        return p;
    }

    private Path best(Object x, Object y) {
        return best(x, 0, y, 0, new HashMap<>());
    }

    private List<Step> stepsOf(String path) {
        List<Step> made = new ArrayList<>();
        int i = 0;
        int j = 0;
        for (char c : path.toCharArray()) {
            int step = c - '0';
            if (step == 0) {
                int like = like(Array.get(left, i), Array.get(right, j), rates[0]);
                made.add(new Step(0, i, j, pairCost(left, i, right, j), "alike near off".split(" ")[like]));
            } else {
                Object array = step == 1 ? left : right;
                int at = step == 1 ? i : j;
                made.add(new Step(step, step == 1 ? i : NONE, step == 2 ? j : NONE, aloneCost(array, at),
                    twice(array, at) ? "twice" : "alone"));
            }
            if (step != 2) i++;
            if (step != 1) j++;
        }
        return made;
    }

    public int compare(int a, int b) {
        if (out(a, 0, 7) || out(b, 0, 7)) return BAD;
        try {
            Object x = array(a);
            Object y = array(b);
            left = copyOf(x);
            right = copyOf(y);
            Path p = best(left, right);
            steps = stepsOf(p.steps);
            return p.cost;
        } catch (Fault f) {
            return f.answer();
        }
    }

    private int verdicts(String verdict) {
        return (int) steps.stream().filter(s -> s.verdict.equals(verdict)).count();
    }

    private int mergedKind() {
        int x = kindOf(left);
        int y = kindOf(right);
        if (x < 8 && y < 8) return joinOf(x, y) < 0 ? 9 : joinOf(x, y);
        return x == y ? x : 9;
    }

    public int result(int what) {
        if (out(what, 0, 9)) return BAD;
        if (steps == null) return STATE;
        switch (what) {
            case 0: return steps.stream().mapToInt(Step::cost).sum();
            case 1: return steps.size();
            case 2: return verdicts("alike");
            case 3: return verdicts("near");
            case 4: return verdicts("off");
            case 5: return (int) steps.stream().filter(s -> s.step == 1).count();
            case 6: return (int) steps.stream().filter(s -> s.step == 2).count();
            case 7: return verdicts("twice");
            case 8: return mergedKind();
            default: return merged(0).size();
        }
    }

    public int step(int k, int what) {
        if (k < 0 || out(what, 0, 3)) return BAD;
        if (steps == null) return STATE;
        if (k >= steps.size()) return NONE;
        Step s = steps.get(k);
        return new int[] {s.step, s.left, s.right, s.cost}[what];
    }

    private List<Object> merged(int mode) {
        List<Object> cells = new ArrayList<>();
        for (Step s : steps) {
            if (s.verdict.equals("twice")) continue;
            Object x = s.left < 0 ? null : Array.get(left, s.left);
            Object y = s.right < 0 ? null : Array.get(right, s.right);
            if (s.step == 1) cells.add(x);
            else if (s.step == 2) cells.add(y);
            else if (mode == 1) cells.add(y);
            else if (mode == 2 && joinOfCells(x, y) >= 0) cells.add(mean(x, y, joinOfCells(x, y)));
            else cells.add(x);
        }
        return cells;
    }

    public int join(int r, int mode) {
        if (out(r, 0, 7) || out(mode, 0, 2)) return BAD;
        if (steps == null) return STATE;
        List<Object> cells = merged(mode);
        if (cells.size() > 20) return FULL;
        held[r] = arrayOf(mergedKind(), cells);
        return cells.size();
    }

    public int near(int r) {
        if (out(r, 0, 7)) return BAD;
        try {
            Object x = array(r);
            int found = NONE;
            int least = Integer.MAX_VALUE;
            for (int s = 7; s >= 0; s--) {
                if (s == r || !isArray(held[s])) continue;
                int cost = best(x, held[s]).cost;
                if (cost <= least) {
                    least = cost;
                    found = s;
                }
            }
            return found;
        } catch (Fault f) {
            return f.answer();
        }
    }

    public int lag(int a, int b) {
        if (out(a, 0, 7) || out(b, 0, 7)) return BAD;
        try {
            Object x = array(a);
            Object y = array(b);
            int most = 0;
            int found = NONE;
            for (int s = -19; s <= 19; s++) {
                int alike = 0;
                for (int i = 0; i < Array.getLength(x); i++) {
                    if (out(i + s, 0, Array.getLength(y) - 1)) continue;
                    if (like(Array.get(x, i), Array.get(y, i + s), 0) == 0) alike++;
                }
                boolean nearer = found == NONE || Math.abs(s) < Math.abs(found - 100);
                if (alike > most || alike > 0 && alike == most && nearer) {
                    most = alike;
                    found = 100 + s;
                }
            }
            return found;
        } catch (Fault f) {
            return f.answer();
        }
    }

    public int vote(int r, int a, int b, int c) {
        if (out(r, 0, 7) || out(a, 0, 7) || out(b, 0, 7) || out(c, 0, 7)) return BAD;
        try {
            Object x = array(a);
            Object y = array(b);
            Object z = array(c);
            int n = Array.getLength(x);
            if (n != Array.getLength(y) || n != Array.getLength(z)) return STATE;
            List<Object> cells = new ArrayList<>();
            int split = 0;
            for (int i = 0; i < n; i++) {
                Object p = Array.get(x, i);
                Object q = Array.get(y, i);
                Object o = Array.get(z, i);
                boolean supported = like(p, q, 0) == 0 || like(p, o, 0) == 0;
                boolean outvoted = !supported && like(q, o, 0) == 0;
                if (outvoted && !fits(q, kindOf(x))) return -20 - i;
                if (!supported && !outvoted) split++;
                cells.add(outvoted ? q : p);
            }
            held[r] = arrayOf(kindOf(x), cells);
            return split;
        } catch (Fault f) {
            return f.answer();
        }
    }

    // ---- patches

    public int patch(int p) {
        if (out(p, 0, 3)) return BAD;
        if (steps == null) return STATE;
        List<Act> acts = new ArrayList<>();
        for (Step s : steps) {
            Object x = s.left < 0 ? null : Array.get(left, s.left);
            Object y = s.right < 0 ? null : Array.get(right, s.right);
            int act = s.step == 1 ? 2 : s.step == 2 ? 3 : s.verdict.equals("alike") ? 0 : 1;
            acts.add(new Act(act, x, y));
        }
        patches.set(p, acts);
        return (int) acts.stream().filter(a -> a.act != 0).count();
    }

    public int turn(int p) {
        if (out(p, 0, 3)) return BAD;
        if (patches.get(p) == null) return STATE;
        List<Act> acts = new ArrayList<>();
        for (Act a : patches.get(p)) acts.add(new Act(new int[] {0, 1, 3, 2}[a.act], a.fresh, a.old));
        patches.set(p, acts);
        return acts.size();
    }

    public int act(int p, int k, int what) {
        if (out(p, 0, 3) || k < 0 || out(what, 0, 2)) return BAD;
        if (patches.get(p) == null) return STATE;
        if (k >= patches.get(p).size()) return NONE;
        Act a = patches.get(p).get(k);
        if (what == 0) return a.act;
        if (what == 1) return a.act == 3 ? NONE : sortOf(a.old);
        return a.act == 2 ? NONE : sortOf(a.fresh);
    }

    public int apply(int p, int r) {
        if (out(p, 0, 3) || out(r, 0, 7)) return BAD;
        if (patches.get(p) == null) return STATE;
        Object array;
        try {
            array = array(r);
        } catch (Fault f) {
            return f.answer();
        }
        List<Act> acts = patches.get(p);
        List<Object> cells = new ArrayList<>();
        int next = 0;
        int k = 0;
        try {
            for (; k < acts.size(); k++) {
                Act a = acts.get(k);
                Object cell = null;
                if (a.act != 3) {
                    if (next >= Array.getLength(array)) throw new Fault(3);
                    cell = Array.get(array, next++);
                    if (a.act != 0 && like(cell, a.old, 0) != 0) throw new Fault(7);
                }
                if (a.act == 0) cells.add(cell);
                if (a.act == 1 || a.act == 3) cells.add(converted(a.fresh, kindOf(array)));
            }
            if (next < Array.getLength(array)) throw new Fault(3);
        } catch (Fault f) {
            torn = f.number;
            return -20 - k;
        }
        torn = 0;
        held[r] = arrayOf(kindOf(array), cells);
        return cells.size();
    }

    // ---- loggers, images

    public int log(int r, int s, int kind, int seed) {
        if (out(r, 0, 7) || out(s, 0, 7) || out(kind, 0, 7)) return BAD;
        try {
            Object array = array(s);
            if (kindOf(array) > 7) return -14;
            if (!fits(valueOf(kindOf(array), 0), kind)) return -15;
            List<Object> cells = new ArrayList<>();
            int x = seed;
            for (int i = 0; i < Array.getLength(array); i++) {
                x = x * 1103515245 + 12345;
                Object cell = Array.get(array, i);
                switch (((x >> 16) & 32767) % 8) {
                    case 0: break;
                    case 1: cells.addAll(List.of(cell, cell)); break;
                    case 2: cells.add(falsified(cell)); break;
                    default: cells.add(cell);
                }
            }
            if (cells.size() > 20) return FULL;
            held[r] = arrayOf(kind, cells);
            return cells.size();
        } catch (Fault f) {
            return f.answer();
        }
    }

    public int draw(int r, int kind, int n, int seed) {
        if (out(r, 0, 7) || out(kind, 0, 10) || out(n, 0, 20)) return BAD;
        List<Object> cells = new ArrayList<>();
        int x = seed;
        for (int i = 0; i < n; i++) {
            x = x * 1103515245 + 12345;
            int u = (x >> 16) & 32767;
            int v = (u / 16) % 64 - 8;
            int sort = kind == 9 ? u % 11 : kind;
            Object cell = valueOf(sort, v);
            if (sort == 5 && (u / 16) % 2 != 0) cell = (long) v * 1000000007;
            cells.add(cell);
        }
        held[r] = arrayOf(kind, cells);
        return 1;
    }

    private static Object[] imageOf(Object[] all) {
        IdentityHashMap<Object, Object> copies = new IdentityHashMap<>();
        Object[] made = new Object[8];
        for (int r = 0; r < 8; r++) {
            made[r] = isArray(all[r]) ? copies.computeIfAbsent(all[r], Model::copyOf) : all[r];
        }
        return made;
    }

    public int keep(int k) {
        if (out(k, 0, 1)) return BAD;
        int before = images[k] == null ? 0 : 1;
        images[k] = imageOf(held);
        return before;
    }

    public int back(int k) {
        if (out(k, 0, 1)) return BAD;
        if (images[k] == null) return STATE;
        held = imageOf(images[k]);
        return count(0);
    }

    public int count(int what) {
        HashSet<Integer> seen = new HashSet<>();
        int[] counts = new int[6];
        for (int r = 0; r < 8; r++) {
            if (!isArray(held[r])) continue;
            counts[0]++;
            if (!seen.add(kind(r, 1))) continue;
            counts[1]++;
            counts[2] += Array.getLength(held[r]);
            for (int i = 0; i < Array.getLength(held[r]); i++) {
                if (Array.get(held[r], i) == null) counts[3]++;
            }
        }
        for (List<Act> p : patches) counts[4] += p == null ? 0 : 1;
        for (Object[] image : images) counts[5] += image == null ? 0 : 1;
        return out(what, 0, 5) ? BAD : counts[what];
    }
}
