import java.io.IOException;

/** Promises 28 to 32: loggers, images and counts. Each test quotes the words that it would find broken. */
public final class LoggersTest {
    private static final int OMIT = 0, TWICE = 1, FALSIFY = 2;

    private final Due due;

    private LoggersTest(Due due) {
        this.due = due;
    }

    private static int next(int x) {
        return x * 1103515245 + 12345;
    }

    private static int draw(int x) {
        return (x >> 16) & 32767;
    }

    private static boolean draws(int seed, int... wanted) {
        int x = seed;
        for (int w : wanted) {
            x = next(x);
            if (draw(x) % 8 != w) return false;
        }
        return true;
    }

    /** The least seed from 0 by which u % 8 is so for the first cells. */
    static int seedFor(int... wanted) {
        int seed = 0;
        while (!draws(seed, wanted)) seed++;
        return seed;
    }

    /** A seed by which twenty cells become this many. */
    private static int seedForLength(int wanted) {
        for (int seed = 0;; seed++) {
            int length = 0;
            int x = seed;
            for (int i = 0; i < 20; i++) {
                x = next(x);
                length += draw(x) % 8 == OMIT ? 0 : draw(x) % 8 == TWICE ? 2 : 1;
            }
            if (length == wanted) return seed;
        }
    }

    private void log() {
        due.quote(28, "Lets a record hold a new array: what a logger writes of the array of a record. .. `r`: the record that gets the array .. `s`: the record whose array is read .. Returns the number of cells");
        due.makes(0, 4, "4:1 4:2 4:3 4:4");
        int seed = seedFor(OMIT, TWICE, FALSIFY, 5);
        due.calls("log(1, 0, 4, " + seed + ") = 4; kind(1, 0) = 4; kind(1, 1) = 1; share(2, 0) = 1; log(0, 0, 5, " + seed + ") = 4; kind(0, 0) = 5; kind(2, 1) = 2");
        due.cells(0, "5:2 5:2 5:4 5:4");
        due.cells(1, "4:2 4:2 4:4 4:4");
        due.cells(2, "4:1 4:2 4:3 4:4");
        due.quote(28, "For each cell in order x becomes x * 1103515245 + 12345 (int arithmetic that wraps around; x is seed at first), and u is (x >> 16) & 32767. .. `seed`: the first x");
        due.makes(0, 4, "4:1 4:2 4:3 4:4 4:5 4:6 4:7 4:8");
        for (int seeded : new int[] {0, 1, -1, 2, Integer.MAX_VALUE, Integer.MIN_VALUE, 123456789, -987654321}) logs(seeded);
        due.quote(28, "If u % 8 is 0, the cell is left out");
        due.makes(0, 4, "4:7 4:8");
        due.calls("log(1, 0, 4, " + seedFor(OMIT, OMIT) + ") = 0; size(1) = 0; kind(1, 0) = 4; log(1, 0, 4, " + seedFor(OMIT, 3) + ") = 1");
        due.cells(1, "4:8");
        due.quote(28, "if it is 1, it is written twice");
        due.makes(0, 4, "4:7 4:8");
        due.calls("log(1, 0, 4, " + seedFor(TWICE, TWICE) + ") = 4");
        due.cells(1, "4:7 4:7 4:8 4:8");
        due.quote(28, "otherwise it is written once.");
        due.makes(0, 4, "4:7");
        for (int u = 3; u < 8; u++) {
            due.calls("log(1, 0, 4, " + seedFor(u) + ") = 1");
            due.cells(1, "4:7");
        }
    }

    /** What a logger makes of 1 to 8 in record 0 with this seed. */
    private void logs(int seed) {
        StringBuilder cells = new StringBuilder();
        int x = seed;
        int length = 0;
        for (int i = 1; i <= 8; i++) {
            x = next(x);
            int u = draw(x) % 8;
            int times = u == OMIT ? 0 : u == TWICE ? 2 : 1;
            for (int n = 0; n < times; n++) cells.append(length++ == 0 ? "4:" : " 4:").append(u == FALSIFY ? i + 1 : i);
        }
        due.calls("log(1, 0, 4, " + seed + ") = " + length);
        due.cells(1, cells.toString());
    }

    /** What a falsifying logger makes of one cell. */
    private void falsified(int kind, String cell, int asKind, String result) {
        due.makes(0, kind, cell);
        due.calls("log(1, 0, " + asKind + ", " + seedFor(FALSIFY) + ") = 1");
        due.cells(1, result);
    }

    private void logFalsified() {
        due.quote(28, "if it is 2, it is written once, but falsified: a boolean is inverted,");
        falsified(0, "0:1", 0, "0:0");
        falsified(0, "0:0", 0, "0:1");
        due.quote(28, "a number is increased by 1");
        falsified(1, "1:-1", 1, "1:0");
        falsified(2, "2:65", 2, "2:66");
        falsified(3, "3:-5", 3, "3:-4");
        falsified(4, "4:9", 4, "4:10");
        falsified(5, "4:MOST", 5, "5:2147483648");
        falsified(6, "6:3", 6, "6:1.375f");
        falsified(6, "6:-8", 6, "6:0");
        falsified(7, "7:3", 7, "7:1.375d");
        falsified(7, "7:-8", 7, "7:0");
        falsified(7, "6:134217728", 7, "7:16777217d");
        // No call makes the greatest long, so of the sorts 1 to 5 only the first four can wrap around.
        due.quote(28, "(in the sorts 1 to 5 it wraps around within its own sort)");
        falsified(1, "1:127", 1, "1:-128");
        falsified(1, "1:127", 5, "5:-128");
        falsified(1, "1:127", 6, "6:-128f");
        falsified(2, "2:65535", 2, "2:0");
        falsified(2, "2:65535", 4, "4:0");
        falsified(3, "3:32767", 3, "3:-32768");
        falsified(3, "3:32767", 7, "7:-32768d");
        falsified(4, "4:MOST", 4, "4:-2147483648");
        falsified(4, "4:MOST", 5, "5:-2147483648");
        due.quote(28, "What is written is converted to the kind.");
        due.makes(0, 4, "4:16777217 4:-3");
        due.calls("log(1, 0, 6, " + seedFor(3, TWICE) + ") = 3; kind(1, 0) = 6");
        due.cells(1, "6:16777216f 6:-3f 6:-3f");
        due.calls("log(1, 0, 7, " + seedFor(TWICE, 4) + ") = 3; kind(1, 0) = 7");
        due.cells(1, "7:16777217d 7:16777217d 7:-3d");
        due.makes(0, 0, "0:1 0:0 0:1");
        due.calls("log(1, 0, 0, " + seedFor(3, TWICE, 4) + ") = 4; kind(1, 0) = 0");
        due.cells(1, "0:1 0:0 0:0 0:1");
        falsified(6, "6:3", 7, "7:1.375d");
        falsified(6, "6:134217728", 7, "7:16777216d");
        falsified(4, "4:16777217", 6, "6:16777218f");
    }

    private void logFaults() {
        due.quote(28, "`r`: .. BAD");
        due.calls("record(0, 4, 1) = 1");
        due.refused("log(-1, 0, 4, 1) = -1; log(8, 0, 4, 1) = -1; log(MOST, 0, 4, 1) = -1; log(LEAST, 0, 4, 1) = -1");
        due.quote(28, "`s`: .. BAD");
        due.calls("record(0, 4, 1) = 1");
        due.refused("log(0, -1, 4, 1) = -1; log(0, 8, 4, 1) = -1; log(0, MOST, 4, 1) = -1; log(0, LEAST, 4, 1) = -1");
        due.quote(28, "`kind`: 0 to 7 .. BAD");
        due.calls("record(0, 9, 1) = 1; record(1, 8, 1) = 1; record(2, 7, 1) = 1");
        due.refused("log(3, 0, 9, 1) = -1; log(3, 1, 8, 1) = -1; log(3, 2, 8, 1) = -1; log(3, 2, -1, 1) = -1; log(3, 2, MOST, 1) = -1; log(3, 2, LEAST, 1) = -1");
        due.quote(28, "null .. of s");
        due.calls("record(0, 4, 1) = 1");
        due.refused("log(0, 7, 4, 1) = -11; log(7, 7, 4, 1) = -11");
        due.quote(28, "no array, .. of s");
        due.calls("record(0, 4, 1) = 1; record(7, 11, 1) = 1");
        due.refused("log(0, 7, 4, 1) = -12; log(7, 7, 4, 1) = -12");
        due.quote(28, "objects, .. of s");
        due.calls("record(0, 4, 1) = 1");
        for (int kind = 8; kind <= 10; kind++) {
            due.calls("record(1, " + kind + ", 1) = 1");
            due.refused("log(0, 1, 0, 1) = -14; log(0, 1, 7, 1) = -14");
            due.calls("record(1, " + kind + ", 0) = 1");
            due.refused("log(0, 1, 4, 1) = -14");
        }
        due.makes(1, 9, "4:1");
        due.refused("log(0, 1, 4, 1) = -14");
        due.quote(28, "kind (if the kind of the array of s does not fit) of s");
        int once = seedFor(4);
        for (int kind = 0; kind < 8; kind++) {
            due.calls("record(0, " + kind + ", 1) = 1");
            for (int asked = 0; asked < 8; asked++) due.calls("log(1, 0, " + asked + ", " + once + ") = " + (CellsTest.FITS[kind].contains("" + asked) ? 1 : -15));
        }
        due.refused("log(1, 0, 6, 1) = -15");
        due.calls("record(0, 7, 0) = 1");
        due.refused("log(1, 0, 6, 1) = -15");
    }

    private void logSize() {
        due.quote(28, "FULL if there would be more than 20 cells");
        due.calls("record(0, 4, 20) = 1; log(1, 0, 4, " + seedForLength(20) + ") = 20; size(1) = 20; fill(1, 0, 1, 4, 5) = 1");
        due.refused("log(1, 0, 4, " + seedForLength(21) + ") = -3; log(2, 0, 4, " + seedForLength(22) + ") = -3; log(0, 0, 4, " + seedForLength(23) + ") = -3");
        due.calls("log(1, 0, 4, " + seedForLength(19) + ") = 19; size(1) = 19");
        due.quote(28, "BAD; null; no array, objects, kind .. FULL");
        String full = ", " + seedForLength(21) + ") = ";
        due.calls("record(6, 11, 0) = 1; record(5, 9, 20) = 1; record(4, 7, 20) = 1");
        due.refused("log(8, 7, 4" + full + "-1; log(0, 7, 8" + full + "-1; log(0, 5, 8" + full + "-1; log(0, 7, 4" + full + "-11; log(0, 6, 4" + full + "-12");
        due.refused("log(0, 5, 4" + full + "-14; log(0, 4, 4" + full + "-15; log(0, 4, 7" + full + "-3");
    }

    /** The cell that draw makes of u, written from the document's words. */
    private static String drawn(int kind, int u) {
        int v = (u / 16) % 64 - 8;
        int sort = kind == 9 ? u % 11 : kind;
        switch (sort) {
            case 0: return "0:" + Math.floorMod(v, 2);
            case 2: return "2:" + (v & 65535);
            case 5: return "5:" + ((u / 16) % 2 == 1 ? v * 1000000007L : v);
            case 6: return "6:" + Float.floatToIntBits(v * 0.125f);
            case 7: return "7:" + Double.doubleToLongBits(v * 0.125);
            case 9: return "9:0";
            case 10: return "10:" + Math.floorMod(v, 5);
            default: return sort + ":" + v;
        }
    }

    private void draws(int kind, int n, int seed) {
        StringBuilder cells = new StringBuilder();
        int x = seed;
        for (int i = 0; i < n; i++) {
            x = next(x);
            cells.append(i == 0 ? "" : " ").append(drawn(kind, draw(x)));
        }
        due.calls("draw(4, " + kind + ", " + n + ", " + seed + ") = 1; kind(4, 0) = " + kind);
        due.cells(4, cells.toString());
    }

    private void drawPromise() {
        String making = "For each cell in order u is made as in log; v is (u / 16) % 64 - 8; the sort is kind, .. The cell is the value of v by this sort .. `seed`: the first x";
        for (int kind = 0; kind <= 10; kind++) {
            if (kind == 9 || kind == 5) continue;
            due.quote(29, making);
            for (int seed : new int[] {0, 1, -5, Integer.MIN_VALUE, Integer.MAX_VALUE, 123456789}) draws(kind, 20, seed);
        }
        due.quote(29, "but u % 11 for kind 9.");
        for (int seed = 0; seed < 8; seed++) draws(9, 20, seed);
        due.quote(29, "but if the sort is 5 and u / 16 is odd, it is the long v * 1000000007.");
        for (int seed = 0; seed < 8; seed++) draws(5, 20, seed);
    }

    private void drawBounds() {
        due.quote(29, "Lets a record hold a new array of random cells. .. Returns 1");
        due.calls("draw(0, 4, 3, 1) = 1; kind(0, 0) = 4; size(0) = 3; share(1, 0) = 1; draw(0, 9, 2, 1) = 1; size(0) = 2; kind(0, 0) = 9; size(1) = 3; kind(1, 1) = 1");
        due.quote(29, "`n`: number of cells, 0 to 20");
        due.calls("draw(0, 4, 0, 1) = 1; size(0) = 0; draw(0, 4, 1, 1) = 1; size(0) = 1; draw(0, 4, 20, 1) = 1; size(0) = 20");
        due.quote(29, "`n` .. BAD");
        due.calls("draw(0, 4, 2, 1) = 1");
        due.refused("draw(0, 4, 21, 1) = -1; draw(0, 4, -1, 1) = -1; draw(0, 4, MOST, 1) = -1; draw(0, 4, LEAST, 1) = -1");
        due.quote(29, "`kind`: 0 to 10 .. BAD");
        due.calls("draw(0, 4, 2, 1) = 1; draw(1, 0, 1, 1) = 1; kind(1, 0) = 0; draw(1, 10, 1, 1) = 1; kind(1, 0) = 10");
        due.refused("draw(0, 11, 2, 1) = -1; draw(0, 12, 2, 1) = -1; draw(0, -1, 2, 1) = -1; draw(0, MOST, 2, 1) = -1; draw(0, LEAST, 2, 1) = -1");
        due.quote(29, "`r`: a record .. BAD");
        due.calls("draw(0, 4, 2, 1) = 1; draw(7, 4, 2, 1) = 1");
        due.refused("draw(8, 4, 2, 1) = -1; draw(-1, 4, 2, 1) = -1; draw(MOST, 4, 2, 1) = -1; draw(LEAST, 4, 2, 1) = -1");
    }

    private void keep() {
        due.quote(30, "Keeps what all records hold in an image,");
        due.makes(0, 4, "4:1 4:2");
        due.makes(7, 9, "9:0 6:3");
        due.calls("record(1, 11, 5) = 1; keep(0) = 0; record(0, 12, 0) = 1; record(7, 11, 0) = 1; record(1, 4, 1) = 1; record(2, 4, 1) = 1; back(0) = 2");
        due.cells(0, "4:1 4:2");
        due.cells(7, "9:0 6:0.375f");
        due.calls("kind(1, 0) = 11; kind(2, 0) = 12");
        due.quote(30, "with copies of the arrays");
        due.makes(0, 4, "4:1 4:2");
        due.calls("keep(1) = 0; put(0, 0, 4, 9) = 1; back(1) = 1");
        due.cells(0, "4:1 4:2");
        due.quote(30, "(also which records hold the same array).");
        due.makes(0, 4, "4:1");
        due.makes(1, 4, "4:1");
        due.calls("share(3, 0) = 1; share(6, 1) = 1; keep(0) = 0; share(3, 1) = 1; record(0, 4, 1) = 1; record(6, 12, 0) = 1; back(0) = 4");
        due.calls("kind(0, 1) = 0; kind(1, 1) = 1; kind(3, 1) = 0; kind(6, 1) = 1; count(1) = 2");
        due.quote(30, "Returns 1 if the image had been kept before, 0 if not");
        due.calls("keep(0) = 0; keep(0) = 1; keep(1) = 0; keep(1) = 1; keep(0) = 1; back(0) = 0; keep(0) = 1");
        due.makes(0, 4, "4:1");
        due.calls("keep(1) = 1; put(0, 0, 4, 2) = 1; keep(1) = 1; put(0, 0, 4, 3) = 1; back(1) = 1");
        due.cells(0, "4:2");
        due.quote(30, "`k`: 0 or 1 .. BAD");
        due.calls("record(0, 4, 1) = 1");
        due.refused("keep(-1) = -1; keep(2) = -1; keep(MOST) = -1; keep(LEAST) = -1");
    }

    private void back() {
        due.quote(31, "Lets all records hold what an image keeps,");
        due.makes(2, 9, "8:1 9:0 6:3 10:2");
        due.calls("record(6, 11, 1) = 1; keep(0) = 0");
        for (int r = 0; r < 8; r++) due.calls("record(" + r + ", 4, 1) = 1");
        due.calls("back(0) = 1; kind(6, 0) = 11");
        due.cells(2, "8:1 9:0 6:0.375f 10:2");
        for (int r : new int[] {0, 1, 3, 4, 5, 7}) due.calls("kind(" + r + ", 0) = 12");
        due.quote(31, "in new arrays (those that held the same array do so again).");
        due.makes(2, 4, "4:1 4:2");
        due.calls("share(5, 2) = 1; record(3, 4, 2) = 1; keep(0) = 0; back(0) = 3; kind(5, 1) = 2; kind(3, 1) = 3; put(5, 0, 4, 9) = 1");
        due.cells(2, "4:9 4:2");
        due.cells(3, "4:0 4:0");
        due.quote(31, "The image stays.");
        due.makes(2, 4, "4:1 4:2");
        due.calls("keep(0) = 0; back(0) = 1; put(2, 0, 4, 9) = 1; back(0) = 1");
        due.cells(2, "4:1 4:2");
        due.calls("put(2, 0, 4, 9) = 1; record(3, 4, 1) = 1; keep(1) = 0; back(0) = 1; kind(3, 0) = 12; back(1) = 2");
        due.cells(2, "4:9 4:2");
        due.calls("count(5) = 2; keep(0) = 1");
        due.quote(31, "Returns how many records hold arrays then");
        due.calls("keep(1) = 0; record(0, 11, 0) = 1; record(1, 4, 0) = 1; share(4, 1) = 1; record(7, 8, 20) = 1; keep(0) = 0; back(1) = 0; back(0) = 3; back(1) = 0");
        for (int r = 0; r < 8; r++) due.calls("record(" + r + ", 4, 1) = 1");
        due.calls("keep(1) = 1; back(1) = 8");
        due.quote(31, "`k`: 0 or 1 .. BAD");
        due.refused("back(-1) = -1; back(2) = -1; back(MOST) = -1; back(LEAST) = -1");
        due.quote(31, "STATE if nothing was kept in the image");
        due.calls("record(0, 4, 1) = 1");
        due.refused("back(0) = -2; back(1) = -2");
        due.calls("keep(1) = 0");
        due.refused("back(0) = -2");
        due.calls("back(1) = 1");
    }

    private void count() {
        due.quote(32, "Returns a number. .. `what`: 0 records that hold arrays, .. Returns that number");
        due.calls("count(0) = 0; record(0, 4, 1) = 1; count(0) = 1; share(5, 0) = 1; count(0) = 2; record(6, 11, 0) = 1; count(0) = 2; record(7, 8, 0) = 1; count(0) = 3; record(5, 12, 0) = 1; count(0) = 2");
        for (int r = 0; r < 8; r++) due.calls("record(" + r + ", 4, 1) = 1");
        due.calls("count(0) = 8");
        due.quote(32, "1 array objects that records hold, each counted once,");
        due.calls("count(1) = 0; record(3, 4, 1) = 1; share(5, 3) = 1; share(0, 3) = 1; count(1) = 1; record(1, 4, 1) = 1; count(1) = 2; record(3, 12, 0) = 1; count(1) = 2; record(6, 11, 0) = 1; count(1) = 2; record(7, 4, 0) = 1; count(1) = 3");
        due.quote(32, "2 cells of these,");
        due.calls("count(2) = 0; record(3, 4, 3) = 1; share(5, 3) = 1; count(2) = 3; record(0, 9, 20) = 1; count(2) = 23; record(7, 8, 0) = 1; count(2) = 23; record(3, 12, 0) = 1; count(2) = 23; record(5, 11, 0) = 1; count(2) = 20");
        due.quote(32, "3 cells of these that are null,");
        due.makes(0, 9, "9:0 4:0 8:0 9:0 10:0");
        due.makes(3, 8, "8:0 9:0");
        due.makes(4, 10, "9:0 10:0");
        due.makes(5, 4, "4:0 4:0");
        due.calls("count(3) = 4; share(6, 0) = 1; count(3) = 4; lay(6, 0, 4, 0) = 1; count(3) = 3; record(3, 11, 0) = 1; count(3) = 2; record(1, 9, 20) = 1; count(3) = 22");
        due.quote(32, "4 how many of the four patches have been made (0 to 4, however often),");
        due.calls("count(4) = 0; record(0, 4, 1) = 1; compare(0, 0) = 0; patch(2) = 0; count(4) = 1; patch(2) = 0; count(4) = 1; turn(2) = 1; count(4) = 1; patch(0) = 0; count(4) = 2; patch(3) = 0; count(4) = 3; patch(1) = 0; count(4) = 4; patch(1) = 0; count(4) = 4");
        due.quote(32, "5 how many of the two images have been kept (0 to 2, however often)");
        due.calls("count(5) = 0; keep(1) = 0; count(5) = 1; keep(1) = 1; count(5) = 1; back(1) = 0; count(5) = 1; keep(0) = 0; count(5) = 2; keep(0) = 1; count(5) = 2");
        due.quote(32, "`what` .. BAD");
        due.refused("count(-1) = -1; count(6) = -1; count(MOST) = -1; count(LEAST) = -1");
    }

    private void all() {
        log();
        logFalsified();
        logFaults();
        logSize();
        drawPromise();
        drawBounds();
        keep();
        back();
        count();
    }

    /** The second argument is the document's file. */
    public static void main(String[] args) throws IOException {
        Due due = new Due("promises 28 to 32", new Document(args[1]));
        new LoggersTest(due).all();
        due.endQuoting(28, 32);
    }
}
