/**
 * A comparison of two logs of the same events. The document (DOC.md) says in numbered promises what each
 * call answers; the numbers stand before the methods.
 */
public final class LoggerTwins {
    public static final int BAD = -1, STATE = -2, FULL = -3, NONE = -4;

    private static final int RECORDS = 8, PATCHES = 4, IMAGES = 2, MOST_CELLS = 20;

    private static final int BOOLEAN = 0, BYTE = 1, CHAR = 2, SHORT = 3, INT = 4, LONG = 5, FLOAT = 6, DOUBLE = 7;
    private static final int ANY = 9, NULL = 9, TEXT = 10, SINGLE = 11, EMPTY = 12;
    private static final int TEXTS = 5, NO_JOIN = -1;

    private static final int NO_FAULT = 0, IS_NULL = 1, NO_ARRAY = 2, NO_CELL = 3, OBJECTS = 4, NO_FIT = 5;
    private static final int BAD_SIZE = 6, OTHER = 7;

    private static final int TOLERANCE = 0, OFF_RATE = 1, ALONE_RATE = 2, TWICE_RATE = 3;
    private static final int ALIKE = 0, NEAR = 1, OFF = 2, ALONE = 3, TWICE = 4;
    private static final int PAIR = 0, LEFT = 1, RIGHT = 2;
    private static final int KEEP = 0, PUT = 1, OUT = 2, IN = 3;

    private static final int FARTHEST_SHIFT = 19;

    private final Records[] images;
    private final Patch[] patches;
    private final int[] rates;
    private final Aligner aligner;
    private final Cells value;
    private Records records;
    private Comparison comparison;
    private long lastAmount;
    private int lastFault;

    /** Promise 1. */
    public LoggerTwins() {
        records = new Records();
        images = new Records[IMAGES];
        patches = new Patch[PATCHES];
        rates = new int[] {0, 3, 2, 1};
        aligner = new Aligner();
        value = new Cells(ANY, 1);
    }

    // ---- records, cells

    /** Promise 2. */
    public int record(int r, int kind, int n) {
        if (!isRecord(r) || !isWithin(kind, 0, EMPTY)) return BAD;
        if (kind == EMPTY) {
            records.hold(r, null);
            return 1;
        }
        if (kind == SINGLE) {
            // No call reads the number of a single tag, so n is not kept.
            records.holdSingle(r);
            return 1;
        }
        if (n > MOST_CELLS) return BAD;
        if (n < 0) return answer(BAD_SIZE);
        records.hold(r, new Cells(kind, n));
        return 1;
    }

    /** Promise 3. */
    public int share(int r, int s) {
        if (!isRecord(r) || !isRecord(s)) return BAD;
        records.holdSame(r, s);
        return 1;
    }

    /** Promise 4. */
    public int kind(int r, int what) {
        if (!isRecord(r) || !isWithin(what, 0, 1)) return BAD;
        Cells array = records.arrays[r];
        if (what == 1) return array == null ? NONE : records.leastHolder(array);
        if (array != null) return array.kind;
        return records.singles[r] ? SINGLE : EMPTY;
    }

    /** Promise 5. */
    public int size(int r) {
        if (!isRecord(r)) return BAD;
        Cells array = records.arrays[r];
        return array == null ? answer(records.faultWithoutArray(r)) : array.length;
    }

    /** Promise 6. */
    public int ask(int r, int i, int kind) {
        if (!isRecord(r) || !isWithin(kind, BOOLEAN, DOUBLE)) return BAD;
        int fault = cellFault(r, i);
        if (fault != NO_FAULT) return answer(fault);
        Cells array = records.arrays[r];
        fault = readFault(array, kind);
        if (fault != NO_FAULT) return answer(fault);
        lastAmount = array.amountAs(i, kind);
        return 1;
    }

    /** Promise 7. */
    public int box(int r, int i) {
        if (!isRecord(r)) return BAD;
        int fault = cellFault(r, i);
        if (fault != NO_FAULT) return answer(fault);
        Cells array = records.arrays[r];
        int sort = array.sorts[i];
        lastAmount = array.amountAs(i, sort);
        return sort;
    }

    /** Promise 8. */
    public long got() {
        return lastAmount;
    }

    /** Promise 9. */
    public int put(int r, int i, int sort, int v) {
        if (!isRecord(r) || !isWithin(sort, BOOLEAN, DOUBLE)) return BAD;
        value.setValue(0, sort, v);
        int fault = writeNumber(r, i);
        return fault == NO_FAULT ? 1 : answer(fault);
    }

    /** Promise 10. */
    public int lay(int r, int i, int sort, int v) {
        if (!isRecord(r) || !isWithin(sort, BOOLEAN, TEXT)) return BAD;
        value.setValue(0, sort, v);
        int fault = writeCell(r, i, value, 0);
        return fault == NO_FAULT ? 1 : answer(fault);
    }

    /** Promise 11. */
    public int fill(int r, int i, int n, int sort, int v) {
        if (!isRecord(r) || !isWithin(n, 0, MOST_CELLS) || !isWithin(sort, BOOLEAN, DOUBLE)) return BAD;
        value.setValue(0, sort, v);
        lastFault = NO_FAULT;
        for (int k = 0; k < n; k++) {
            lastFault = writeNumber(r, i + k);
            if (lastFault != NO_FAULT) return k;
        }
        return n;
    }

    /** Promise 12. */
    public int move(int r, int i, int s, int j, int n) {
        if (!isRecord(r) || !isRecord(s) || !isWithin(n, 0, MOST_CELLS)) return BAD;
        lastFault = NO_FAULT;
        for (int k = 0; k < n; k++) {
            lastFault = cellFault(s, j + k);
            if (lastFault == NO_FAULT) lastFault = writeCell(r, i + k, records.arrays[s], j + k);
            if (lastFault != NO_FAULT) return k;
        }
        return n;
    }

    /** Promise 13. */
    public int torn() {
        return lastFault;
    }

    /** Promise 14. */
    public int sum(int r, int kind) {
        if (!isRecord(r) || !isWithin(kind, BYTE, DOUBLE)) return BAD;
        Cells array = records.arrays[r];
        if (array == null) return answer(records.faultWithoutArray(r));
        int fault = array.length == 0 ? NO_FAULT : readFault(array, kind);
        if (fault != NO_FAULT) return answer(fault);
        lastAmount = array.total(kind);
        return 1;
    }

    // ---- rows beside one another

    /** Promise 15. */
    public int rate(int what, int v) {
        if (!isWithin(what, TOLERANCE, TWICE_RATE)) return BAD;
        int least = what == OFF_RATE || what == ALONE_RATE ? 1 : 0;
        int most = what == TOLERANCE ? 99 : 9;
        if (!isWithin(v, least, most)) return BAD;
        int before = rates[what];
        rates[what] = v;
        return before;
    }

    /** Promise 16. */
    public int like(int a, int i, int b, int j) {
        if (!isRecord(a) || !isRecord(b)) return BAD;
        int fault = cellFault(a, i);
        if (fault == NO_FAULT) fault = cellFault(b, j);
        if (fault != NO_FAULT) return answer(fault);
        return Match.verdict(records.arrays[a], i, records.arrays[b], j, rates[TOLERANCE]);
    }

    /** Promise 17. */
    public int compare(int a, int b) {
        if (!isRecord(a) || !isRecord(b)) return BAD;
        Cells left = records.arrays[a];
        if (left == null) return answer(records.faultWithoutArray(a));
        Cells right = records.arrays[b];
        if (right == null) return answer(records.faultWithoutArray(b));
        int cost = aligner.leastCost(left, right, rates);
        comparison = new Comparison(left.copy(), right.copy(), cost);
        aligner.traceSteps(comparison, rates);
        return cost;
    }

    /** Promise 18. */
    public int result(int what) {
        if (!isWithin(what, 0, 9)) return BAD;
        if (comparison == null) return STATE;
        switch (what) {
            case 0: return comparison.cost;
            case 1: return comparison.count;
            case 2: return comparison.verdictsOf(ALIKE);
            case 3: return comparison.verdictsOf(NEAR);
            case 4: return comparison.verdictsOf(OFF);
            case 5: return comparison.stepsOf(LEFT);
            case 6: return comparison.stepsOf(RIGHT);
            case 7: return comparison.verdictsOf(TWICE);
            case 8: return comparison.mergedKind();
            default: return comparison.mergedLength();
        }
    }

    /** Promise 19. */
    public int step(int k, int what) {
        if (k < 0 || !isWithin(what, 0, 3)) return BAD;
        if (comparison == null) return STATE;
        if (k >= comparison.count) return NONE;
        switch (what) {
            case 0: return comparison.steps[k];
            case 1: return comparison.hasLeft(k) ? comparison.lefts[k] : NONE;
            case 2: return comparison.hasRight(k) ? comparison.rights[k] : NONE;
            default: return comparison.costs[k];
        }
    }

    /** Promise 20. */
    public int join(int r, int mode) {
        if (!isRecord(r) || !isWithin(mode, 0, 2)) return BAD;
        if (comparison == null) return STATE;
        if (comparison.mergedLength() > MOST_CELLS) return FULL;
        Cells merged = comparison.merged(mode);
        records.hold(r, merged);
        return merged.length;
    }

    /** Promise 21. */
    public int near(int r) {
        if (!isRecord(r)) return BAD;
        Cells left = records.arrays[r];
        if (left == null) return answer(records.faultWithoutArray(r));
        int best = NONE;
        int bestCost = 0;
        for (int s = 0; s < RECORDS; s++) {
            Cells right = records.arrays[s];
            if (s == r || right == null) continue;
            int cost = aligner.leastCost(left, right, rates);
            if (best == NONE || cost < bestCost) {
                best = s;
                bestCost = cost;
            }
        }
        return best;
    }

    /** Promise 22. */
    public int lag(int a, int b) {
        if (!isRecord(a) || !isRecord(b)) return BAD;
        Cells left = records.arrays[a];
        if (left == null) return answer(records.faultWithoutArray(a));
        Cells right = records.arrays[b];
        if (right == null) return answer(records.faultWithoutArray(b));
        int best = 0;
        int most = Match.alikeAtShift(left, right, 0);
        for (int distance = 1; distance <= FARTHEST_SHIFT; distance++) {
            // From 0 outwards and the negative one first: only a greater number takes the place of an earlier one.
            int below = Match.alikeAtShift(left, right, -distance);
            if (below > most) {
                best = -distance;
                most = below;
            }
            int above = Match.alikeAtShift(left, right, distance);
            if (above > most) {
                best = distance;
                most = above;
            }
        }
        return most == 0 ? NONE : 100 + best;
    }

    /** Promise 23. */
    public int vote(int r, int a, int b, int c) {
        if (!isRecord(r) || !isRecord(a) || !isRecord(b) || !isRecord(c)) return BAD;
        Cells first = records.arrays[a];
        if (first == null) return answer(records.faultWithoutArray(a));
        Cells second = records.arrays[b];
        if (second == null) return answer(records.faultWithoutArray(b));
        Cells third = records.arrays[c];
        if (third == null) return answer(records.faultWithoutArray(c));
        if (first.length != second.length || first.length != third.length) return STATE;
        Cells elected = first.copy();
        int split = 0;
        for (int i = 0; i < first.length; i++) {
            if (Match.isAlike(first, i, second, i) || Match.isAlike(first, i, third, i)) continue;
            if (!Match.isAlike(second, i, third, i)) {
                split++;
            } else if (Kinds.fits(second.sorts[i], elected.kind)) {
                elected.take(i, second, i);
            } else {
                return -20 - i;
            }
        }
        records.hold(r, elected);
        return split;
    }

    // ---- patches

    /** Promise 24. */
    public int patch(int p) {
        if (!isPatch(p)) return BAD;
        if (comparison == null) return STATE;
        Patch made = new Patch(comparison);
        patches[p] = made;
        return made.length - made.actsOf(KEEP);
    }

    /** Promise 25. */
    public int turn(int p) {
        if (!isPatch(p)) return BAD;
        Patch patch = patches[p];
        if (patch == null) return STATE;
        patch.reverse();
        return patch.length;
    }

    /** Promise 26. */
    public int act(int p, int k, int what) {
        if (!isPatch(p) || k < 0 || !isWithin(what, 0, 2)) return BAD;
        Patch patch = patches[p];
        if (patch == null) return STATE;
        if (k >= patch.length) return NONE;
        if (what == 0) return patch.acts[k];
        if (what == 1) return patch.hasOld(k) ? patch.olds.sorts[k] : NONE;
        return patch.hasNew(k) ? patch.news.sorts[k] : NONE;
    }

    /** Promise 27. */
    public int apply(int p, int r) {
        if (!isPatch(p) || !isRecord(r)) return BAD;
        Patch patch = patches[p];
        if (patch == null) return STATE;
        Cells array = records.arrays[r];
        if (array == null) return answer(records.faultWithoutArray(r));
        Application application = new Application(patch, array);
        int done = application.run();
        lastFault = application.fault;
        if (lastFault != NO_FAULT) return -20 - done;
        records.hold(r, application.made);
        return application.made.length;
    }

    // ---- loggers, images

    /** Promise 28. */
    public int log(int r, int s, int kind, int seed) {
        if (!isRecord(r) || !isRecord(s) || !isWithin(kind, BOOLEAN, DOUBLE)) return BAD;
        Cells source = records.arrays[s];
        if (source == null) return answer(records.faultWithoutArray(s));
        int fault = readFault(source, kind);
        if (fault != NO_FAULT) return answer(fault);
        int length = loggedLength(source.length, seed);
        if (length > MOST_CELLS) return FULL;
        records.hold(r, logged(source, new Cells(kind, length), seed));
        return length;
    }

    /** Promise 29. */
    public int draw(int r, int kind, int n, int seed) {
        if (!isRecord(r) || !isWithin(kind, BOOLEAN, TEXT) || !isWithin(n, 0, MOST_CELLS)) return BAD;
        Cells drawn = new Cells(kind, n);
        int x = seed;
        for (int i = 0; i < n; i++) {
            x = nextState(x);
            int u = drawOf(x);
            int v = u / 16 % 64 - 8;
            int sort = kind == ANY ? u % 11 : kind;
            if (sort == LONG && u / 16 % 2 == 1) drawn.setWhole(i, LONG, v * 1000000007L);
            else drawn.setValue(i, sort, v);
        }
        records.hold(r, drawn);
        return 1;
    }

    /** Promise 30. */
    public int keep(int k) {
        if (!isWithin(k, 0, IMAGES - 1)) return BAD;
        int before = images[k] == null ? 0 : 1;
        images[k] = records.copy();
        return before;
    }

    /** Promise 31. */
    public int back(int k) {
        if (!isWithin(k, 0, IMAGES - 1)) return BAD;
        Records image = images[k];
        if (image == null) return STATE;
        records = image.copy();
        return records.holders();
    }

    /** Promise 32. */
    public int count(int what) {
        switch (what) {
            case 0: return records.holders();
            case 1: return records.distinct();
            case 2: return records.distinctCells();
            case 3: return records.distinctNulls();
            case 4: return patchesMade();
            case 5: return imagesKept();
            default: return BAD;
        }
    }

    // ---- what the calls have in common

    private static boolean isWithin(int x, int least, int most) {
        return least <= x && x <= most;
    }

    private static boolean isRecord(int r) {
        return isWithin(r, 0, RECORDS - 1);
    }

    private static boolean isPatch(int p) {
        return isWithin(p, 0, PATCHES - 1);
    }

    private static int answer(int fault) {
        return -10 - fault;
    }

    private int cellFault(int r, int i) {
        Cells array = records.arrays[r];
        if (array == null) return records.faultWithoutArray(r);
        return isWithin(i, 0, array.length - 1) ? NO_FAULT : NO_CELL;
    }

    private static int readFault(Cells array, int kind) {
        if (array.kind > DOUBLE) return OBJECTS;
        return Kinds.fits(array.kind, kind) ? NO_FAULT : NO_FIT;
    }

    private int writeNumber(int r, int i) {
        int fault = cellFault(r, i);
        if (fault != NO_FAULT) return fault;
        return records.arrays[r].kind > DOUBLE ? OBJECTS : writeCell(r, i, value, 0);
    }

    private int writeCell(int r, int i, Cells from, int j) {
        int fault = cellFault(r, i);
        if (fault != NO_FAULT) return fault;
        Cells array = records.arrays[r];
        if (!Kinds.fits(from.sorts[j], array.kind)) return NO_FIT;
        array.take(i, from, j);
        return NO_FAULT;
    }

    private static int nextState(int x) {
        return x * 1103515245 + 12345;
    }

    private static int drawOf(int x) {
        return (x >> 16) & 32767;
    }

    private static int timesWritten(int u) {
        if (u % 8 == 0) return 0;
        return u % 8 == 1 ? 2 : 1;
    }

    private static int loggedLength(int n, int seed) {
        int length = 0;
        int x = seed;
        for (int i = 0; i < n; i++) {
            x = nextState(x);
            length += timesWritten(drawOf(x));
        }
        return length;
    }

    private Cells logged(Cells source, Cells target, int seed) {
        int at = 0;
        int x = seed;
        for (int i = 0; i < source.length; i++) {
            x = nextState(x);
            int u = drawOf(x);
            value.take(0, source, i);
            if (u % 8 == 2) value.falsify(0);
            for (int times = timesWritten(u); times > 0 && at < target.length; times--) {
                target.take(at, value, 0);
                at++;
            }
        }
        return target;
    }

    private int patchesMade() {
        int made = 0;
        for (int p = 0; p < PATCHES; p++) {
            if (patches[p] != null) made++;
        }
        return made;
    }

    private int imagesKept() {
        int kept = 0;
        for (int k = 0; k < IMAGES; k++) {
            if (images[k] != null) kept++;
        }
        return kept;
    }

    /** Which sorts fit which kinds. */
    private static final class Kinds {
        static boolean fits(int sort, int kind) {
            if (kind == ANY) return true;
            if (kind > DOUBLE) return sort == kind || sort == NULL;
            if (sort == kind) return true;
            if (sort == BOOLEAN || sort > DOUBLE) return false;
            // From int on every kind takes all the number sorts before it; char fits neither byte nor short.
            return kind >= INT ? sort < kind : kind == SHORT && sort == BYTE;
        }

        static int joined(int a, int b) {
            if (a == b) return a;
            if (a == BOOLEAN || b == BOOLEAN) return NO_JOIN;
            int wider = Math.max(a, b);
            if (wider >= INT) return wider;
            // Byte fits short, but char beside either of them needs an int.
            return a == CHAR || b == CHAR ? INT : SHORT;
        }

        static boolean isReal(int sort) {
            return sort == FLOAT || sort == DOUBLE;
        }
    }

    /**
     * The bit patterns of IEEE 754, worked out by arithmetic: the rules for this file leave out
     * Float.floatToIntBits and Double.doubleToLongBits. No value here is infinite, NaN or -0.0.
     */
    private static final class Bits {
        static long ofFloat(double x) {
            long bits = ofSize(x < 0.0 ? -x : x, 23, -126);
            // The sign of an int stands in all the upper bits of a long.
            return x < 0.0 ? bits - (1L << 31) : bits;
        }

        static long ofDouble(double x) {
            long bits = ofSize(x < 0.0 ? -x : x, 52, -1022);
            return x < 0.0 ? bits - (1L << 63) : bits;
        }

        private static long ofSize(double x, int width, int lowest) {
            if (x == 0.0) return 0L;
            double scaled = x;
            int exponent = 0;
            for (int n = 0; n < 1100 && scaled >= 2.0; n++) {
                scaled = scaled * 0.5;
                exponent++;
            }
            for (int n = 0; n < 1100 && scaled < 1.0 && exponent > lowest; n++) {
                scaled = scaled * 2.0;
                exponent--;
            }
            // A leading one adds itself to the exponent's field; what is too small to have one leaves 0 there.
            return ((long) (exponent - lowest) << width) + (long) (scaled * (double) (1L << width));
        }
    }

    /**
     * A row of cells. The sorts float and double stand in reals (a float is exact there), all others in
     * wholes, as their amount; the place not used is 0.
     */
    private static final class Cells {
        final int kind;
        final int length;
        final int[] sorts;
        final long[] wholes;
        final double[] reals;

        Cells(int kind, int length) {
            this.kind = kind;
            this.length = length;
            sorts = new int[length];
            wholes = new long[length];
            reals = new double[length];
            for (int i = 0; i < length; i++) sorts[i] = kind <= DOUBLE ? kind : NULL;
        }

        Cells copy() {
            Cells made = new Cells(kind, length);
            for (int i = 0; i < length; i++) made.take(i, this, i);
            return made;
        }

        void setWhole(int i, int sort, long whole) {
            sorts[i] = sort;
            wholes[i] = whole;
            reals[i] = 0.0;
        }

        void setReal(int i, int sort, double real) {
            sorts[i] = sort;
            wholes[i] = 0L;
            reals[i] = real;
        }

        void setValue(int i, int sort, int v) {
            if (sort == FLOAT) setReal(i, sort, (double) ((float) v * 0.125f));
            else if (sort == DOUBLE) setReal(i, sort, v * 0.125);
            else setWhole(i, sort, wholeOf(sort, v));
        }

        private static long wholeOf(int sort, long v) {
            switch (sort) {
                case BOOLEAN: return v & 1L;
                case BYTE: return (byte) v;
                case CHAR: return (char) v;
                case SHORT: return (short) v;
                case INT: return (int) v;
                case NULL: return 0L;
                case TEXT: return Math.floorMod(v, (long) TEXTS);
                default: return v;
            }
        }

        /** The caller has seen that the cell fits. */
        void take(int i, Cells from, int j) {
            int sort = kind <= DOUBLE ? kind : from.sorts[j];
            if (Kinds.isReal(sort)) setReal(i, sort, from.realAs(j, sort));
            else setWhole(i, sort, from.wholes[j]);
        }

        /** A double is never asked for as a float, so a real is right as it stands. */
        double realAs(int i, int sort) {
            if (Kinds.isReal(sorts[i])) return reals[i];
            return sort == FLOAT ? (double) (float) wholes[i] : (double) wholes[i];
        }

        long amountAs(int i, int sort) {
            if (sort == FLOAT) return Bits.ofFloat(realAs(i, sort));
            return sort == DOUBLE ? Bits.ofDouble(realAs(i, sort)) : wholes[i];
        }

        void falsify(int i) {
            int sort = sorts[i];
            if (sort == FLOAT) setReal(i, sort, (double) ((float) reals[i] + 1.0f));
            else if (sort == DOUBLE) setReal(i, sort, reals[i] + 1.0);
            // One more inverts a boolean too, of which only the last bit stays.
            else setWhole(i, sort, wholeOf(sort, wholes[i] + 1L));
        }

        long total(int sort) {
            if (sort == FLOAT) return Bits.ofFloat((double) floatTotal());
            return sort == DOUBLE ? Bits.ofDouble(doubleTotal()) : wholeTotal();
        }

        private long wholeTotal() {
            long total = 0L;
            for (int i = 0; i < length; i++) total += wholes[i];
            return total;
        }

        private float floatTotal() {
            float total = 0.0f;
            for (int i = 0; i < length; i++) total = total + (float) realAs(i, FLOAT);
            return total;
        }

        private double doubleTotal() {
            double total = 0.0;
            for (int i = 0; i < length; i++) total = total + realAs(i, DOUBLE);
            return total;
        }

        /** Sets a cell to the mean of two numbers whose sorts have this join. */
        void setMean(int i, int sort, Cells a, int j, Cells b, int k) {
            if (sort == FLOAT) {
                // Half of the least negative float would be -0.0; adding 0 makes it 0.
                float half = ((float) a.realAs(j, sort) + (float) b.realAs(k, sort)) * 0.5f + 0.0f;
                setReal(i, sort, (double) half);
            } else if (sort == DOUBLE) {
                setReal(i, sort, (a.realAs(j, sort) + b.realAs(k, sort)) * 0.5 + 0.0);
            } else {
                // Shared bits and half of the others: rounded down, and no sum that could wrap around.
                long x = a.wholes[j];
                long y = b.wholes[k];
                setWhole(i, sort, (x & y) + ((x ^ y) >> 1));
            }
        }

        boolean isDuplicate(int i) {
            return i > 0 && Match.verdict(this, i, this, i - 1, 0) == ALIKE;
        }

        int nulls() {
            int found = 0;
            for (int i = 0; i < length; i++) {
                if (sorts[i] == NULL) found++;
            }
            return found;
        }
    }

    /** Whether two cells are alike, near or off. */
    private static final class Match {
        static int verdict(Cells a, int i, Cells b, int j, int tolerance) {
            int left = a.sorts[i];
            int right = b.sorts[j];
            if (left > DOUBLE || right > DOUBLE) {
                return left == right && a.wholes[i] == b.wholes[j] ? ALIKE : OFF;
            }
            int sort = Kinds.joined(left, right);
            if (sort == NO_JOIN) return OFF;
            if (Kinds.isReal(sort)) return ofReals(a.realAs(i, sort), b.realAs(j, sort), tolerance);
            if (a.wholes[i] == b.wholes[j]) return ALIKE;
            return sort != BOOLEAN && isClose(a.wholes[i], b.wholes[j], tolerance) ? NEAR : OFF;
        }

        private static int ofReals(double x, double y, int tolerance) {
            if (x == y) return ALIKE;
            double difference = x < y ? y - x : x - y;
            return difference <= tolerance ? NEAR : OFF;
        }

        private static boolean isClose(long x, long y, int tolerance) {
            long difference = x < y ? y - x : x - y;
            // A difference that has wrapped around is below 0 and in truth far above any tolerance.
            return difference >= 0L && difference <= tolerance;
        }

        static boolean isAlike(Cells a, int i, Cells b, int j) {
            return verdict(a, i, b, j, 0) == ALIKE;
        }

        static int alikeAtShift(Cells a, Cells b, int shift) {
            int found = 0;
            int end = Math.min(a.length, b.length - shift);
            for (int i = Math.max(0, -shift); i < end; i++) {
                if (isAlike(a, i, b, i + shift)) found++;
            }
            return found;
        }
    }

    /** What the eight records hold; an image is a copy of it. */
    private static final class Records {
        final Cells[] arrays = new Cells[RECORDS];
        final boolean[] singles = new boolean[RECORDS];

        /** Without an array (null) the record is empty. */
        void hold(int r, Cells array) {
            arrays[r] = array;
            singles[r] = false;
        }

        void holdSingle(int r) {
            arrays[r] = null;
            singles[r] = true;
        }

        void holdSame(int r, int s) {
            arrays[r] = arrays[s];
            singles[r] = singles[s];
        }

        int faultWithoutArray(int r) {
            return singles[r] ? NO_ARRAY : IS_NULL;
        }

        int leastHolder(Cells array) {
            int r = 0;
            while (r < RECORDS - 1 && arrays[r] != array) r++;
            return r;
        }

        private boolean isFirstHolder(int r) {
            return arrays[r] != null && leastHolder(arrays[r]) == r;
        }

        Records copy() {
            Records made = new Records();
            for (int r = 0; r < RECORDS; r++) {
                if (singles[r]) made.holdSingle(r);
                else if (isFirstHolder(r)) made.hold(r, arrays[r].copy());
                else if (arrays[r] != null) made.holdSame(r, leastHolder(arrays[r]));
            }
            return made;
        }

        int holders() {
            int found = 0;
            for (int r = 0; r < RECORDS; r++) {
                if (arrays[r] != null) found++;
            }
            return found;
        }

        int distinct() {
            int found = 0;
            for (int r = 0; r < RECORDS; r++) {
                if (isFirstHolder(r)) found++;
            }
            return found;
        }

        int distinctCells() {
            int found = 0;
            for (int r = 0; r < RECORDS; r++) {
                if (isFirstHolder(r)) found += arrays[r].length;
            }
            return found;
        }

        int distinctNulls() {
            int found = 0;
            for (int r = 0; r < RECORDS; r++) {
                if (isFirstHolder(r)) found += arrays[r].nulls();
            }
            return found;
        }
    }

    /** Finds best alignments, in tables that are made once and used by all calls. */
    private static final class Aligner {
        private final int[] leftVerdicts = new int[MOST_CELLS];
        private final int[] rightVerdicts = new int[MOST_CELLS];
        private final int[][] pairVerdicts = new int[MOST_CELLS][MOST_CELLS];
        /** The least cost from before cell i of the left and cell j of the right array to the end. */
        private final int[][] rest = new int[MOST_CELLS + 1][MOST_CELLS + 1];

        private static int costOf(int verdict, int[] rates) {
            switch (verdict) {
                case ALIKE: return 0;
                case NEAR: return 1;
                case OFF: return rates[OFF_RATE];
                case ALONE: return rates[ALONE_RATE];
                default: return rates[TWICE_RATE];
            }
        }

        private static void judgeAlone(Cells array, int[] verdicts) {
            for (int i = 0; i < array.length; i++) verdicts[i] = array.isDuplicate(i) ? TWICE : ALONE;
        }

        int leastCost(Cells left, Cells right, int[] rates) {
            judgeAlone(left, leftVerdicts);
            judgeAlone(right, rightVerdicts);
            int n = left.length;
            int m = right.length;
            rest[n][m] = 0;
            for (int i = n - 1; i >= 0; i--) rest[i][m] = leftCost(i, m, rates);
            for (int j = m - 1; j >= 0; j--) rest[n][j] = rightCost(n, j, rates);
            for (int i = n - 1; i >= 0; i--) {
                for (int j = m - 1; j >= 0; j--) {
                    pairVerdicts[i][j] = Match.verdict(left, i, right, j, rates[TOLERANCE]);
                    int alone = Math.min(leftCost(i, j, rates), rightCost(i, j, rates));
                    rest[i][j] = Math.min(pairCost(i, j, rates), alone);
                }
            }
            return rest[0][0];
        }

        private int pairCost(int i, int j, int[] rates) {
            return costOf(pairVerdicts[i][j], rates) + rest[i + 1][j + 1];
        }

        private int leftCost(int i, int j, int[] rates) {
            return costOf(leftVerdicts[i], rates) + rest[i + 1][j];
        }

        private int rightCost(int i, int j, int[] rates) {
            return costOf(rightVerdicts[j], rates) + rest[i][j + 1];
        }

        /** For the arrays of the latest leastCost. */
        void traceSteps(Comparison made, int[] rates) {
            int n = made.left.length;
            int m = made.right.length;
            int i = 0;
            int j = 0;
            // The least step that still leads to the least cost makes the lexicographically least sequence.
            for (int k = 0; k < n + m && (i < n || j < m); k++) {
                if (i < n && j < m && rest[i][j] == pairCost(i, j, rates)) {
                    made.add(PAIR, i, j, pairVerdicts[i][j], costOf(pairVerdicts[i][j], rates));
                    i++;
                    j++;
                } else if (i < n && rest[i][j] == leftCost(i, j, rates)) {
                    made.add(LEFT, i, j, leftVerdicts[i], costOf(leftVerdicts[i], rates));
                    i++;
                } else if (j < m) {
                    made.add(RIGHT, i, j, rightVerdicts[j], costOf(rightVerdicts[j], rates));
                    j++;
                }
            }
        }
    }

    /** Two arrays as they were, and their best alignment. */
    private static final class Comparison {
        final Cells left;
        final Cells right;
        final int cost;
        final int[] steps;
        /** The next cell of each array before a step, also where hasLeft or hasRight says that it is not taken. */
        final int[] lefts;
        final int[] rights;
        final int[] verdicts;
        final int[] costs;
        int count;

        Comparison(Cells left, Cells right, int cost) {
            this.left = left;
            this.right = right;
            this.cost = cost;
            int most = left.length + right.length;
            steps = new int[most];
            lefts = new int[most];
            rights = new int[most];
            verdicts = new int[most];
            costs = new int[most];
        }

        void add(int step, int i, int j, int verdict, int price) {
            steps[count] = step;
            lefts[count] = i;
            rights[count] = j;
            verdicts[count] = verdict;
            costs[count] = price;
            count++;
        }

        boolean hasLeft(int k) {
            return steps[k] != RIGHT;
        }

        boolean hasRight(int k) {
            return steps[k] != LEFT;
        }

        int stepsOf(int step) {
            int found = 0;
            for (int k = 0; k < count; k++) {
                if (steps[k] == step) found++;
            }
            return found;
        }

        int verdictsOf(int verdict) {
            int found = 0;
            for (int k = 0; k < count; k++) {
                if (verdicts[k] == verdict) found++;
            }
            return found;
        }

        int mergedKind() {
            if (left.kind > DOUBLE || right.kind > DOUBLE) return left.kind == right.kind ? left.kind : ANY;
            int kind = Kinds.joined(left.kind, right.kind);
            return kind == NO_JOIN ? ANY : kind;
        }

        int mergedLength() {
            return count - verdictsOf(TWICE);
        }

        Cells merged(int mode) {
            Cells made = new Cells(mergedKind(), mergedLength());
            int at = 0;
            for (int k = 0; k < count && at < made.length; k++) {
                if (verdicts[k] == TWICE) continue;
                if (steps[k] == PAIR && mode == 2) mergeMean(made, at, lefts[k], rights[k]);
                else if (!hasLeft(k) || steps[k] == PAIR && mode == 1) made.take(at, right, rights[k]);
                else made.take(at, left, lefts[k]);
                at++;
            }
            return made;
        }

        private void mergeMean(Cells made, int at, int i, int j) {
            boolean numbers = left.sorts[i] <= DOUBLE && right.sorts[j] <= DOUBLE;
            int sort = numbers ? Kinds.joined(left.sorts[i], right.sorts[j]) : NO_JOIN;
            // Numbers in arrays of their own kind have the merged kind as their join, so the mean needs no conversion.
            if (sort == NO_JOIN) made.take(at, left, i);
            else made.setMean(at, sort, left, i, right, j);
        }
    }

    /** A sequence of acts, with copies of their old and new cells. */
    private static final class Patch {
        final int length;
        final int[] acts;
        Cells olds;
        Cells news;

        Patch(Comparison from) {
            length = from.count;
            acts = new int[length];
            olds = new Cells(ANY, length);
            news = new Cells(ANY, length);
            for (int k = 0; k < length; k++) {
                acts[k] = actOf(from.steps[k], from.verdicts[k]);
                if (from.hasLeft(k)) olds.take(k, from.left, from.lefts[k]);
                if (from.hasRight(k)) news.take(k, from.right, from.rights[k]);
            }
        }

        private static int actOf(int step, int verdict) {
            if (step == LEFT) return OUT;
            if (step == RIGHT) return IN;
            return verdict == ALIKE ? KEEP : PUT;
        }

        boolean hasOld(int k) {
            return acts[k] != IN;
        }

        boolean hasNew(int k) {
            return acts[k] != OUT;
        }

        int actsOf(int act) {
            int found = 0;
            for (int k = 0; k < length; k++) {
                if (acts[k] == act) found++;
            }
            return found;
        }

        void reverse() {
            Cells swapped = olds;
            olds = news;
            news = swapped;
            for (int k = 0; k < length; k++) {
                if (acts[k] == OUT) acts[k] = IN;
                else if (acts[k] == IN) acts[k] = OUT;
            }
        }
    }

    /** One use of a patch on an array: the new array as far as it is made, and the fault that ended it. */
    private static final class Application {
        final Patch patch;
        final Cells source;
        final Cells made;
        int taken;
        int added;
        int fault;

        Application(Patch patch, Cells source) {
            this.patch = patch;
            this.source = source;
            made = new Cells(source.kind, patch.length - patch.actsOf(OUT));
        }

        /** Returns how many acts were done without a fault. */
        int run() {
            for (int k = 0; k < patch.length; k++) {
                fault = faultOf(k);
                if (fault != NO_FAULT) return k;
                perform(k);
            }
            if (taken < source.length) fault = NO_CELL;
            return patch.length;
        }

        private int faultOf(int k) {
            int act = patch.acts[k];
            if (act != IN && taken >= source.length) return NO_CELL;
            if ((act == PUT || act == OUT) && !Match.isAlike(source, taken, patch.olds, k)) return OTHER;
            boolean appendsNew = act == PUT || act == IN;
            return appendsNew && !Kinds.fits(patch.news.sorts[k], source.kind) ? NO_FIT : NO_FAULT;
        }

        private void perform(int k) {
            int act = patch.acts[k];
            if (act == KEEP) made.take(added, source, taken);
            else if (act != OUT) made.take(added, patch.news, k);
            if (act != OUT) added++;
            if (act != IN) taken++;
        }
    }
}
