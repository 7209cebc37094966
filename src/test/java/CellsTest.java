/** Promises 1 to 14: records and cells. */
public final class CellsTest {
    private static final Due DUE = new Due("promises 1 to 14");
    private static final int LEAST = Integer.MIN_VALUE, MOST = Integer.MAX_VALUE;

    private static void newObject() {
        DUE.begin("1 a new object");
        for (int r = 0; r < 8; r++) DUE.calls("kind(" + r + ", 0) = 12; kind(" + r + ", 1) = -4; size(" + r + ") = -11");
        for (int p = 0; p < 4; p++) DUE.calls("turn(" + p + ") = -2; patch(" + p + ") = -2");
        for (int what = 0; what < 6; what++) DUE.calls("count(" + what + ") = 0");
        DUE.calls("got() = 0; torn() = 0; result(0) = -2; step(0, 0) = -2; join(0, 0) = -2; back(0) = -2; back(1) = -2");
        DUE.calls("rate(0, 0) = 0; rate(1, 3) = 3; rate(2, 2) = 2; rate(3, 1) = 1");
    }

    private static void record() {
        DUE.begin("2 record");
        String[] fresh = {"0:0", "1:0", "2:0", "3:0", "4:0", "5:0", "6:0", "7:0", "9:0", "9:0", "9:0"};
        for (int kind = 0; kind <= 10; kind++) {
            DUE.calls("record(3, " + kind + ", 2) = 1; kind(3, 0) = " + kind);
            DUE.cells(3, fresh[kind] + " " + fresh[kind]);
            DUE.calls("record(3, " + kind + ", 20) = 1; size(3) = 20; record(3, " + kind + ", 0) = 1; size(3) = 0");
            DUE.calls("record(3, " + kind + ", 21) = -1; record(3, " + kind + ", -1) = -16; size(3) = 0");
            DUE.calls("record(3, " + kind + ", " + MOST + ") = -1; record(3, " + kind + ", " + LEAST + ") = -16");
        }
        DUE.calls("record(3, 11, " + MOST + ") = 1; kind(3, 0) = 11; record(3, 11, -5) = 1; kind(3, 0) = 11; size(3) = -12");
        DUE.calls("record(3, 12, 77) = 1; kind(3, 0) = 12; record(3, 12, -77) = 1; size(3) = -11");
        DUE.calls("record(3, 4, 1) = 1; record(-1, 4, 1) = -1; record(8, 4, 1) = -1; record(3, -1, 1) = -1; record(3, 13, 1) = -1");
        DUE.calls("record(8, 4, -1) = -1; record(3, 13, -1) = -1; kind(3, 0) = 4; size(3) = 1");
        DUE.calls("share(4, 3) = 1; record(3, 4, 2) = 1; size(4) = 1; size(3) = 2");
    }

    private static void share() {
        DUE.begin("3 share");
        DUE.calls("record(2, 4, 2) = 1; share(5, 2) = 1; put(5, 1, 4, 9) = 1");
        DUE.cells(2, "4:0 4:9");
        DUE.calls("kind(5, 1) = 2; share(5, 5) = 1; kind(5, 1) = 2; count(1) = 1");
        DUE.calls("record(1, 11, 3) = 1; share(5, 1) = 1; kind(5, 0) = 11; kind(5, 1) = -4; size(2) = 2");
        DUE.calls("share(2, 0) = 1; kind(2, 0) = 12; size(2) = -11; share(5, 0) = 1; size(5) = -11");
        DUE.calls("share(8, 0) = -1; share(-1, 0) = -1; share(0, 8) = -1; share(0, -1) = -1");
    }

    private static void kind() {
        DUE.begin("4 kind");
        DUE.calls("record(6, 8, 1) = 1; share(3, 6) = 1; share(7, 6) = 1; kind(7, 1) = 3; kind(6, 1) = 3; kind(3, 1) = 3");
        DUE.calls("record(0, 8, 1) = 1; kind(0, 1) = 0; kind(7, 1) = 3; record(3, 12, 0) = 1; kind(7, 1) = 6; kind(7, 0) = 8");
        DUE.calls("record(6, 12, 0) = 1; kind(7, 1) = 7; kind(6, 1) = -4");
        DUE.calls("kind(1, 1) = -4; kind(1, 0) = 12; record(1, 11, 0) = 1; kind(1, 1) = -4; kind(1, 0) = 11");
        DUE.calls("kind(8, 0) = -1; kind(-1, 1) = -1; kind(0, 2) = -1; kind(0, -1) = -1; kind(1, 2) = -1");
    }

    private static void size() {
        DUE.begin("5 size");
        DUE.calls("record(0, 10, 20) = 1; size(0) = 20; record(0, 7, 0) = 1; size(0) = 0; size(1) = -11");
        DUE.calls("record(1, 11, 0) = 1; size(1) = -12; size(-1) = -1; size(8) = -1");
    }

    private static void ask() {
        DUE.begin("6 ask");
        String[] fit = {"0", "1 3 4 5 6 7", "2 4 5 6 7", "3 4 5 6 7", "4 5 6 7", "5 6 7", "6 7", "7"};
        for (int kind = 0; kind < 8; kind++) {
            DUE.calls("record(0, " + kind + ", 1) = 1");
            for (int asked = 0; asked < 8; asked++) {
                DUE.calls("ask(0, 0, " + asked + ") = " + (fit[kind].contains("" + asked) ? 1 : -15));
            }
        }
        DUE.calls("record(0, 5, 1) = 1; put(0, 0, 4, 16777217) = 1; ask(0, 0, 6) = 1");
        DUE.calls("got() = " + Float.floatToIntBits(16777217f) + "; ask(0, 0, 7) = 1");
        DUE.calls("got() = " + Double.doubleToLongBits(16777217.0) + "; ask(0, 0, 4) = -15; ask(0, 1, 5) = -13");
        DUE.calls("got() = " + Double.doubleToLongBits(16777217.0) + "; ask(0, 0, 5) = 1; got() = 16777217");
        DUE.calls("record(0, 6, 1) = 1; put(0, 0, 6, -3) = 1; ask(0, 0, 6) = 1; got() = " + Float.floatToIntBits(-0.375f));
        DUE.calls("ask(0, 0, 7) = 1; got() = " + Double.doubleToLongBits(-0.375) + "; ask(0, -1, 7) = -13");
        DUE.calls("record(0, 0, 1) = 1; put(0, 0, 0, -3) = 1; ask(0, 0, 0) = 1; got() = 1");
        DUE.calls("record(0, 2, 1) = 1; put(0, 0, 2, -1) = 1; ask(0, 0, 4) = 1; got() = 65535");
        for (int kind = 8; kind <= 10; kind++) DUE.calls("record(1, " + kind + ", 1) = 1; ask(1, 0, 4) = -14; ask(1, 1, 4) = -13");
        DUE.calls("record(1, 9, 1) = 1; lay(1, 0, 4, 5) = 1; ask(1, 0, 4) = -14; ask(1, 0, 0) = -14");
        DUE.calls("ask(2, 0, 0) = -11; record(2, 11, 0) = 1; ask(2, 0, 0) = -12; ask(2, -1, 8) = -1; ask(8, 0, 0) = -1");
        DUE.calls("ask(-1, 0, 0) = -1; ask(0, 0, 8) = -1; ask(0, 0, -1) = -1; ask(0, " + MOST + ", 4) = -13; ask(0, " + LEAST + ", 4) = -13");
    }

    private static void box() {
        DUE.begin("7 box");
        DUE.calls("record(0, 9, 11) = 1");
        for (int sort = 0; sort <= 10; sort++) DUE.calls("lay(0, " + sort + ", " + sort + ", -7) = 1");
        DUE.cells(0, "0:1 1:-7 2:65529 3:-7 4:-7 5:-7 6:" + Float.floatToIntBits(-0.875f) + " 7:"
            + Double.doubleToLongBits(-0.875) + " 8:-7 9:0 10:3");
        DUE.calls("box(0, 8) = 8; got() = -7; box(0, 11) = -13; box(0, -1) = -13; box(1, 0) = -11; got() = -7");
        DUE.calls("record(1, 11, 4) = 1; box(1, 0) = -12; box(8, 0) = -1; box(-1, 0) = -1; got() = -7");
    }

    private static void got() {
        DUE.begin("8 got");
        DUE.calls("got() = 0; record(0, 4, 2) = 1; fill(0, 0, 2, 4, 6) = 2; got() = 0; box(0, 0) = 4; got() = 6; sum(0, 4) = 1; got() = 12");
        DUE.calls("sum(0, 3) = -15; got() = 12; ask(0, 0, 5) = 1; got() = 6; sum(0, 0) = -1; ask(0, 0, 8) = -1; box(0, 2) = -13; got() = 6");
    }

    private static void put() {
        DUE.begin("9 put");
        DUE.calls("record(0, 7, 8) = 1");
        for (int sort = 1; sort < 8; sort++) DUE.calls("put(0, " + sort + ", " + sort + ", 65539) = 1");
        StringBuilder due = new StringBuilder("7:0");
        for (double x : new double[] {3, 3, 3, 65539, 65539, 65539 * 0.125, 65539 * 0.125}) due.append(" 7:").append(Double.doubleToLongBits(x));
        DUE.cells(0, due.toString());
        DUE.calls("put(0, 0, 0, 1) = -15; record(1, 0, 1) = 1; put(1, 0, 0, 3) = 1; put(1, 0, 1, 0) = -15; box(1, 0) = 0; got() = 1");
        DUE.calls("record(1, 6, 1) = 1; put(1, 0, 6, 16777217) = 1");
        DUE.cells(1, "6:" + Float.floatToIntBits((float) 16777217 * 0.125f));
        DUE.calls("put(1, 0, 4, 16777217) = 1");
        DUE.cells(1, "6:" + Float.floatToIntBits(16777216f));
        DUE.calls("put(1, 0, 7, 8) = -15; record(2, 2, 1) = 1; put(2, 0, 1, 1) = -15; put(2, 0, 3, 1) = -15; put(2, 0, 2, 65) = 1");
        DUE.calls("record(2, 3, 1) = 1; put(2, 0, 2, 1) = -15; put(2, 0, 1, 1) = 1; record(2, 1, 1) = 1; put(2, 0, 2, 1) = -15");
        DUE.calls("record(3, 9, 1) = 1; put(3, 0, 4, 1) = -14; put(3, 1, 4, 1) = -13; record(3, 8, 1) = 1; put(3, 0, 4, 1) = -14");
        DUE.calls("record(3, 10, 1) = 1; put(3, 0, 0, 1) = -14; put(4, 0, 0, 1) = -11; record(4, 11, 1) = 1; put(4, 0, 0, 1) = -12");
        DUE.calls("put(4, 0, 8, 1) = -1; put(4, 0, -1, 1) = -1; put(8, 0, 0, 1) = -1; put(-1, 0, 0, 1) = -1; put(0, -1, 4, 1) = -13; put(0, 8, 4, 1) = -13");
    }

    private static void lay() {
        DUE.begin("10 lay");
        DUE.calls("record(0, 8, 2) = 1; lay(0, 0, 8, " + LEAST + ") = 1; lay(0, 1, 10, 1) = -15; lay(0, 1, 4, 1) = -15");
        DUE.cells(0, "8:" + LEAST + " 9:0");
        DUE.calls("lay(0, 0, 9, 5) = 1");
        DUE.cells(0, "9:0 9:0");
        DUE.calls("record(0, 10, 5) = 1");
        for (int i = 0; i < 5; i++) DUE.calls("lay(0, " + i + ", 10, " + (i - 7) + ") = 1");
        DUE.cells(0, "10:3 10:4 10:0 10:1 10:2");
        DUE.calls("lay(0, 0, 9, 1) = 1; box(0, 0) = 9; lay(0, 0, 8, 1) = -15; lay(0, 0, 0, 1) = -15");
        DUE.calls("record(0, 5, 1) = 1; lay(0, 0, 1, 300) = 1; lay(0, 0, 6, 8) = -15; lay(0, 0, 8, 8) = -15; lay(0, 0, 9, 8) = -15; lay(0, 0, 10, 8) = -15");
        DUE.cells(0, "5:44");
        DUE.calls("record(0, 9, 1) = 1; lay(0, 0, 7, 8) = 1; lay(0, 1, 7, 8) = -13; lay(0, -1, 11, 8) = -1; lay(0, -1, 10, 8) = -13");
        DUE.cells(0, "7:" + Double.doubleToLongBits(1.0));
        DUE.calls("lay(1, 0, 9, 0) = -11; record(1, 11, 9) = 1; lay(1, 0, 8, 0) = -12; lay(8, 0, 0, 0) = -1; lay(-1, 0, 0, 0) = -1; lay(0, 0, -1, 0) = -1");
    }

    private static void fill() {
        DUE.begin("11 fill");
        DUE.calls("record(0, 5, 4) = 1; fill(0, 1, 2, 3, -2) = 2; torn() = 0");
        DUE.cells(0, "5:0 5:-2 5:-2 5:0");
        DUE.calls("fill(0, 3, 20, 1, 7) = 1; torn() = 3; record(3, 7, 2) = 1; fill(3, 0, 1, 7, 8) = 1; fill(3, 1, 1, 7, 16) = 1; fill(3, 1, 2, 0, 16) = 0; torn() = 5");
        DUE.cells(3, "7:" + Double.doubleToLongBits(1.0) + " 7:" + Double.doubleToLongBits(2.0));
        DUE.cells(0, "5:0 5:-2 5:-2 5:7");
        DUE.calls("fill(0, 0, 3, 6, 7) = 0; torn() = 5; fill(0, 4, 1, 6, 7) = 0; torn() = 3; fill(0, 0, 0, 6, 7) = 0; torn() = 0");
        DUE.calls("fill(0, -1, 2, 4, 7) = 0; torn() = 3; fill(0, " + MOST + ", 20, 4, 7) = 0; fill(0, " + LEAST + ", 20, 4, 7) = 0; torn() = 3");
        DUE.cells(0, "5:0 5:-2 5:-2 5:7");
        DUE.calls("fill(1, 0, 1, 4, 7) = 0; torn() = 1; record(1, 11, 0) = 1; fill(1, 0, 1, 4, 7) = 0; torn() = 2; fill(1, 0, 0, 4, 7) = 0; torn() = 0");
        DUE.calls("record(2, 9, 2) = 1; fill(2, 0, 2, 4, 7) = 0; torn() = 4; fill(2, 2, 2, 4, 7) = 0; torn() = 3");
        DUE.calls("fill(8, 0, 1, 4, 7) = -1; fill(-1, 0, 1, 4, 7) = -1; fill(0, 0, 21, 4, 7) = -1; fill(0, 0, -1, 4, 7) = -1");
        DUE.calls("fill(0, 0, 1, 8, 7) = -1; fill(0, 0, 1, -1, 7) = -1; torn() = 3");
    }

    private static void move() {
        DUE.begin("12 move");
        DUE.calls("record(0, 4, 4) = 1; put(0, 0, 4, 1) = 1; put(0, 1, 4, 2) = 1; put(0, 2, 4, 3) = 1; put(0, 3, 4, 4) = 1");
        DUE.calls("record(1, 6, 3) = 1; move(1, 1, 0, 2, 2) = 2; torn() = 0");
        DUE.cells(1, "6:0 6:" + Float.floatToIntBits(3f) + " 6:" + Float.floatToIntBits(4f));
        DUE.calls("move(0, 0, 0, 1, 3) = 3");
        DUE.cells(0, "4:2 4:3 4:4 4:4");
        DUE.calls("move(0, 1, 0, 0, 3) = 3");
        DUE.cells(0, "4:2 4:2 4:2 4:2");
        DUE.calls("move(0, 0, 1, 0, 1) = 0; torn() = 5; move(0, 4, 1, 0, 1) = 0; torn() = 3; move(0, 0, 1, 3, 1) = 0; torn() = 3");
        DUE.calls("move(0, 0, 7, 0, 1) = 0; torn() = 1; move(7, 0, 0, 0, 1) = 0; torn() = 1; record(6, 11, 0) = 1");
        DUE.calls("move(0, 0, 6, 0, 1) = 0; torn() = 2; move(6, 0, 0, 0, 1) = 0; torn() = 2; move(6, 0, 7, 0, 1) = 0; torn() = 1; move(7, 0, 6, 0, 1) = 0; torn() = 2");
        DUE.calls("move(7, 0, 0, 9, 1) = 0; torn() = 3; move(7, 0, 7, 0, 0) = 0; torn() = 0");
        DUE.calls("record(2, 9, 3) = 1; lay(2, 0, 8, 5) = 1; lay(2, 1, 4, 6) = 1; record(3, 8, 3) = 1; move(3, 0, 2, 0, 3) = 1; torn() = 5");
        DUE.cells(3, "8:5 9:0 9:0");
        DUE.calls("move(2, 2, 1, 0, 2) = 1; torn() = 3; move(2, 0, 3, 0, 1) = 1");
        DUE.cells(2, "8:5 4:6 6:0");
        DUE.calls("move(0, " + MOST + ", 0, 0, 2) = 0; torn() = 3; move(0, 0, 0, " + MOST + ", 2) = 0; torn() = 3; move(0, " + LEAST + ", 0, " + LEAST + ", 2) = 0; torn() = 3");
        DUE.calls("move(0, 0, 0, 0, 0) = 0; torn() = 0; move(8, 0, 0, 0, 1) = -1; move(0, 0, 8, 0, 1) = -1; move(-1, 0, 0, 0, 1) = -1; move(0, 0, -1, 0, 1) = -1");
        DUE.calls("move(0, 0, 7, 0, 21) = -1; move(0, 0, 7, 0, -1) = -1; torn() = 0");
    }

    private static void torn() {
        DUE.begin("13 torn");
        DUE.calls("torn() = 0; record(0, 4, 1) = 1; fill(0, 0, 2, 4, 1) = 1; torn() = 3; fill(0, 0, 21, 4, 1) = -1; move(8, 0, 0, 0, 0) = -1; torn() = 3");
        DUE.calls("apply(0, 0) = -2; apply(4, 0) = -1; put(0, 0, 7, 1) = -15; torn() = 3; compare(0, 0) = 0; patch(0) = 0");
        DUE.calls("apply(0, 1) = -11; record(1, 11, 0) = 1; apply(0, 1) = -12; torn() = 3; apply(0, 0) = 1; torn() = 0");
        DUE.calls("move(0, 0, 1, 0, 1) = 0; torn() = 2; torn() = 2; move(0, 0, 0, 0, 1) = 1; torn() = 0");
    }

    private static void sum() {
        DUE.begin("14 sum");
        DUE.calls("record(0, 1, 3) = 1; fill(0, 0, 3, 1, 100) = 3; sum(0, 1) = 1; got() = 300; sum(0, 3) = 1; got() = 300; sum(0, 2) = -15");
        DUE.calls("sum(0, 6) = 1; got() = " + Float.floatToIntBits(300f) + "; sum(0, 7) = 1; got() = " + Double.doubleToLongBits(300.0));
        DUE.calls("record(0, 4, 1) = 1; put(0, 0, 4, 16777217) = 1; sum(0, 7) = 1; got() = " + Double.doubleToLongBits(16777217.0));
        DUE.calls("record(0, 4, 3) = 1; put(0, 0, 4, 16777216) = 1; put(0, 1, 4, 1) = 1; put(0, 2, 4, 1) = 1");
        DUE.calls("sum(0, 6) = 1; got() = " + Float.floatToIntBits(16777216f) + "; sum(0, 4) = 1; got() = 16777218");
        DUE.calls("sum(0, 7) = 1; got() = " + Double.doubleToLongBits(16777218.0) + "; fill(0, 0, 3, 4, " + MOST + ") = 3; sum(0, 4) = 1; got() = " + 3L * MOST);
        DUE.calls("sum(0, 3) = -15; sum(0, 0) = -1; sum(0, 8) = -1; sum(-1, 4) = -1; sum(8, 4) = -1; got() = " + 3L * MOST);
        DUE.calls("record(1, 0, 1) = 1; sum(1, 1) = -15; record(1, 0, 0) = 1; sum(1, 1) = 1; got() = 0; record(1, 9, 0) = 1; sum(1, 7) = 1; got() = 0");
        DUE.calls("record(1, 9, 1) = 1; sum(1, 7) = -14; record(1, 8, 1) = 1; sum(1, 7) = -14; record(1, 10, 1) = 1; sum(1, 1) = -14");
        DUE.calls("sum(2, 4) = -11; record(2, 11, 0) = 1; sum(2, 4) = -12");
        DUE.calls("record(3, 6, 2) = 1; put(3, 0, 6, 1) = 1; put(3, 1, 6, -5) = 1; sum(3, 6) = 1; got() = " + Float.floatToIntBits(-0.5f) + "; sum(3, 5) = -15");
    }

    public static void main(String[] args) {
        newObject();
        record();
        share();
        kind();
        size();
        ask();
        box();
        got();
        put();
        lay();
        fill();
        move();
        torn();
        sum();
        DUE.end();
    }
}
