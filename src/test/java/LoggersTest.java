/** Promises 28 to 32: loggers, images and counts. */
public final class LoggersTest {
    private static final Due DUE = new Due("promises 28 to 32");
    private static final int LEAST = Integer.MIN_VALUE, MOST = Integer.MAX_VALUE;
    private static final int OMIT = 0, TWICE = 1, FALSIFY = 2, ONCE = 3;

    private static int next(int x) {
        return x * 1103515245 + 12345;
    }

    private static int draw(int x) {
        return (x >> 16) & 32767;
    }

    /** What the logger does with the cells after this one x: u % 8, but 3 for all from 3 on. */
    private static int doing(int x) {
        return Math.min(ONCE, draw(x) % 8);
    }

    private static boolean does(int seed, int... wanted) {
        int x = seed;
        for (int w : wanted) {
            x = next(x);
            if (doing(x) != w) return false;
        }
        return true;
    }

    /** A seed by which the logger does this with the first cells. */
    private static int seedFor(int... wanted) {
        int seed = 0;
        while (!does(seed, wanted)) seed++;
        return seed;
    }

    /** A seed by which twenty cells become this many. */
    private static int seedForLength(int wanted) {
        for (int seed = 0;; seed++) {
            int length = 0;
            int x = seed;
            for (int i = 0; i < 20; i++) {
                x = next(x);
                length += new int[] {0, 2, 1, 1}[doing(x)];
            }
            if (length == wanted) return seed;
        }
    }

    private static void log() {
        DUE.begin("28 log");
        DUE.makes(0, 4, "4:1 4:2 4:3 4:4");
        int seed = seedFor(OMIT, TWICE, FALSIFY, ONCE);
        DUE.calls("log(1, 0, 4, " + seed + ") = 4; kind(1, 0) = 4");
        DUE.cells(1, "4:2 4:2 4:4 4:4");
        DUE.calls("log(1, 0, 7, " + seed + ") = 4; kind(1, 0) = 7; box(1, 0) = 7; got() = " + Double.doubleToLongBits(2.0));
        DUE.calls("share(2, 0) = 1; log(0, 0, 5, " + seed + ") = 4; kind(0, 0) = 5; kind(2, 1) = 2");
        DUE.cells(0, "5:2 5:2 5:4 5:4");
        DUE.cells(2, "4:1 4:2 4:3 4:4");
        DUE.calls("log(0, 2, 4, " + seedFor(OMIT, OMIT, OMIT, OMIT) + ") = 0; size(0) = 0; kind(0, 0) = 4; log(1, 0, 6, 5) = 0; kind(1, 0) = 6");
        DUE.calls("log(1, 7, 4, 1) = -11; record(7, 11, 0) = 1; log(1, 7, 4, 1) = -12; log(1, 7, 8, 1) = -1; log(1, 7, -1, 1) = -1; log(8, 7, 4, 1) = -1");
        DUE.calls("log(-1, 2, 4, 1) = -1; log(1, 8, 4, 1) = -1; log(1, -1, 4, 1) = -1; log(1, 2, 3, 1) = -15; log(1, 2, 0, 1) = -15; log(1, 0, 3, 1) = -15");
        for (int kind = 8; kind <= 10; kind++) DUE.calls("record(3, " + kind + ", 2) = 1; log(1, 3, 4, 1) = -14; log(1, 3, 0, 1) = -14; kind(1, 0) = 6");
        DUE.begin("28 log, its size");
        DUE.calls("record(0, 4, 20) = 1; log(1, 0, 4, " + seedForLength(20) + ") = 20; log(1, 0, 4, " + seedForLength(21) + ") = -3; size(1) = 20");
        DUE.calls("log(1, 0, 4, " + seedForLength(22) + ") = -3; log(1, 0, 4, " + seedForLength(19) + ") = 19");
    }

    /** What a falsifying logger makes of one cell. */
    private static void falsified(int kind, String cell, int asKind, String due) {
        DUE.makes(0, kind, cell);
        DUE.calls("log(1, 0, " + asKind + ", " + seedFor(FALSIFY) + ") = 1");
        DUE.cells(1, due);
    }

    private static void logFalsified() {
        DUE.begin("28 log, falsified");
        falsified(0, "0:1", 0, "0:0");
        falsified(0, "0:0", 0, "0:1");
        falsified(1, "1:127", 1, "1:-128");
        falsified(1, "1:127", 5, "5:-128");
        falsified(2, "2:65535", 2, "2:0");
        falsified(2, "2:65535", 4, "4:0");
        falsified(3, "3:32767", 4, "4:-32768");
        falsified(4, "4:" + MOST, 4, "4:" + LEAST);
        falsified(4, "4:" + MOST, 5, "5:" + LEAST);
        falsified(4, "4:-1", 7, "7:0");
        falsified(5, "4:" + MOST, 5, "5:" + (MOST + 1L));
        falsified(6, "6:3", 6, "6:" + Float.floatToIntBits(1.375f));
        falsified(6, "6:3", 7, "7:" + Double.doubleToLongBits(1.375));
        falsified(6, "6:134217728", 7, "7:" + Double.doubleToLongBits(16777216.0));
        falsified(7, "6:134217728", 7, "7:" + Double.doubleToLongBits(16777217.0));
        falsified(7, "7:-8", 7, "7:0");
    }

    /** The cell that draw makes of u, written from the document's words. */
    private static String drawn(int kind, int u) {
        int v = (u / 16) % 64 - 8;
        int sort = kind == 9 ? u % 11 : kind;
        switch (sort) {
            case 0: return "0:" + Math.floorMod(v, 2);
            case 2: return "2:" + (v & 65535);
            case 5: return "5:" + ((u / 16) % 2 == 1 ? v * 1000000007L : v);
            case 6: return "6:" + Float.floatToIntBits(v * 0.125f);
            case 7: return "7:" + Double.doubleToLongBits(v * 0.125);
            case 9: return "9:0";
            case 10: return "10:" + Math.floorMod(v, 5);
            default: return sort + ":" + v;
        }
    }

    private static void drawPromise() {
        for (int kind = 0; kind <= 10; kind++) {
            DUE.begin("29 draw, kind " + kind);
            for (int seed : new int[] {0, 1, -5, LEAST, MOST, 123456789}) {
                StringBuilder due = new StringBuilder();
                int x = seed;
                for (int i = 0; i < 20; i++) {
                    x = next(x);
                    due.append(i == 0 ? "" : " ").append(drawn(kind, draw(x)));
                }
                DUE.calls("draw(4, " + kind + ", 20, " + seed + ") = 1; kind(4, 0) = " + kind);
                DUE.cells(4, due.toString());
            }
        }
        DUE.begin("29 draw");
        DUE.calls("draw(0, 4, 3, 1) = 1; share(1, 0) = 1; draw(0, 9, 0, 1) = 1; size(0) = 0; kind(0, 0) = 9; size(1) = 3");
        DUE.calls("draw(1, 4, 21, 1) = -1; draw(1, 4, -1, 1) = -1; draw(1, 11, 1, 1) = -1; draw(1, -1, 1, 1) = -1; draw(8, 4, 1, 1) = -1; draw(-1, 4, 1, 1) = -1; size(1) = 3");
    }

    private static void keep() {
        DUE.begin("30 keep");
        DUE.makes(0, 4, "4:1 4:2");
        DUE.calls("share(3, 0) = 1; record(1, 11, 5) = 1; keep(0) = 0; keep(1) = 0; keep(0) = 1; keep(2) = -1; keep(-1) = -1");
        DUE.calls("put(0, 0, 4, 9) = 1; keep(0) = 1; put(0, 0, 4, 8) = 1; back(1) = 2");
        DUE.cells(3, "4:1 4:2");
        DUE.calls("back(0) = 2");
        DUE.cells(3, "4:9 4:2");
        DUE.calls("kind(1, 0) = 11; kind(3, 1) = 0; count(5) = 2");
    }

    private static void back() {
        DUE.begin("31 back");
        DUE.calls("back(0) = -2; back(1) = -2; back(2) = -1; back(-1) = -1; keep(1) = 0; back(1) = 0; back(0) = -2");
        DUE.makes(2, 9, "8:1 9:0 6:3 10:2");
        DUE.calls("share(5, 2) = 1; record(4, 9, 4) = 1; record(6, 11, 1) = 1; keep(0) = 0");
        DUE.calls("record(2, 0, 1) = 1; record(6, 4, 1) = 1; record(7, 4, 1) = 1; record(4, 12, 1) = 1; lay(5, 0, 8, 2) = 1; back(0) = 3");
        DUE.cells(2, "8:1 9:0 6:" + Float.floatToIntBits(0.375f) + " 10:2");
        DUE.cells(4, "9:0 9:0 9:0 9:0");
        DUE.calls("kind(5, 1) = 2; kind(4, 1) = 4; kind(6, 0) = 11; kind(7, 0) = 12; kind(0, 0) = 12; count(1) = 2");
        DUE.calls("lay(5, 0, 8, 7) = 1; box(2, 0) = 8; got() = 7; back(0) = 3; box(2, 0) = 8; got() = 1; lay(2, 1, 4, 4) = 1; back(0) = 3; box(5, 1) = 9");
        DUE.calls("back(1) = 0; kind(2, 0) = 12; kind(6, 0) = 12; back(0) = 3; kind(5, 1) = 2");
    }

    private static void count() {
        DUE.begin("32 count");
        DUE.calls("count(-1) = -1; count(6) = -1; count(0) = 0; count(3) = 0");
        DUE.makes(0, 9, "9:0 4:0 8:0 9:0");
        DUE.makes(2, 4, "4:0 4:0 4:0");
        DUE.makes(3, 8, "8:0 9:0");
        DUE.makes(4, 10, "9:0");
        DUE.calls("share(5, 0) = 1; share(7, 3) = 1; record(1, 11, 0) = 1; record(6, 9, 0) = 1");
        DUE.calls("count(0) = 7; count(1) = 5; count(2) = 10; count(3) = 4");
        DUE.calls("record(0, 12, 0) = 1; count(0) = 6; count(1) = 5; count(2) = 10; count(3) = 4; share(5, 1) = 1; count(0) = 5; count(1) = 4; count(2) = 6; count(3) = 2");
        DUE.calls("compare(2, 3) = 7; patch(2) = 3; patch(2) = 3; count(4) = 1; turn(2) = 3; count(4) = 1; patch(0) = 3; patch(1) = 3; patch(3) = 3; count(4) = 4");
        DUE.calls("count(5) = 0; keep(1) = 0; count(5) = 1; keep(1) = 1; count(5) = 1; keep(0) = 0; count(5) = 2; back(0) = 5; count(5) = 2; count(4) = 4");
    }

    public static void main(String[] args) {
        log();
        logFalsified();
        drawPromise();
        keep();
        back();
        count();
        DUE.end();
    }
}
