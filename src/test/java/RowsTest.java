/** Promises 15 to 23: rows beside one another. */
public final class RowsTest {
    private static final Due DUE = new Due("promises 15 to 23");
    private static final int LEAST = Integer.MIN_VALUE, MOST = Integer.MAX_VALUE;

    private static String bits(float x) {
        return "6:" + Float.floatToIntBits(x);
    }

    private static String bits(double x) {
        return "7:" + Double.doubleToLongBits(x);
    }

    private static void rate() {
        DUE.begin("15 rate");
        DUE.calls("rate(0, 99) = 0; rate(0, 0) = 99; rate(0, 100) = -1; rate(0, -1) = -1; rate(0, 5) = 0");
        DUE.calls("rate(1, 1) = 3; rate(1, 9) = 1; rate(1, 0) = -1; rate(1, 10) = -1; rate(1, 4) = 9");
        DUE.calls("rate(2, 1) = 2; rate(2, 9) = 1; rate(2, 0) = -1; rate(2, 10) = -1; rate(2, 4) = 9");
        DUE.calls("rate(3, 0) = 1; rate(3, 9) = 0; rate(3, -1) = -1; rate(3, 10) = -1; rate(3, 4) = 9");
        DUE.calls("rate(-1, 4) = -1; rate(4, 4) = -1; rate(0, 5) = 5; rate(1, 4) = 4; rate(2, 4) = 4; rate(3, 4) = 4");
    }

    /** Puts one cell into each of two arrays of any objects and compares them both ways. */
    private static void likeness(String a, String b, int due) {
        DUE.makes(0, 9, a);
        DUE.makes(1, 9, b);
        DUE.calls("like(0, 0, 1, 0) = " + due + "; like(1, 0, 0, 0) = " + due);
    }

    private static void like() {
        DUE.begin("16 like");
        DUE.calls("rate(0, 99) = 0");
        likeness("0:1", "0:3", 0);
        likeness("0:1", "0:0", 2);
        likeness("0:1", "4:1", 2);
        likeness("0:0", "9:0", 2);
        likeness("1:-1", "2:65535", 2);
        likeness("1:-1", "2:65", 1);
        likeness("1:65", "2:65", 0);
        likeness("2:99", "3:0", 1);
        likeness("2:100", "3:0", 2);
        likeness("4:" + LEAST, "4:" + MOST, 2);
        likeness("5:" + LEAST, "4:" + MOST, 2);
        likeness("4:0", "5:-99", 1);
        likeness("4:0", "5:-100", 2);
        likeness("5:16777217", "6:134217728", 0);
        likeness("4:16777219", "6:134217728", 1);
        likeness("5:16777217", "7:134217728", 1);
        likeness("6:800", "7:8", 1);
        likeness("6:801", "7:8", 2);
        likeness("7:792", "4:0", 1);
        likeness("7:793", "4:0", 2);
        likeness("8:5", "8:5", 0);
        likeness("8:5", "8:6", 2);
        likeness("8:3", "4:3", 2);
        likeness("8:3", "10:3", 2);
        likeness("10:3", "10:8", 0);
        likeness("10:3", "10:4", 2);
        likeness("9:0", "9:1", 0);
        likeness("9:0", "8:0", 2);
        likeness("9:0", "10:0", 2);
        likeness("9:0", "4:0", 2);
        DUE.calls("rate(0, 0) = 99");
        likeness("6:8", "6:9", 2);
        likeness("4:8", "1:9", 2);
        likeness("4:1", "7:8", 0);
        DUE.calls("rate(0, 1) = 0");
        likeness("6:134217728", "6:134217744", 2);
        DUE.calls("rate(0, 2) = 1");
        likeness("6:134217728", "6:134217744", 1);
        DUE.calls("like(2, 0, 0, 0) = -11; record(2, 11, 0) = 1; like(2, 0, 0, 0) = -12; like(0, 0, 2, 0) = -12; like(0, 0, 3, 0) = -11");
        DUE.calls("like(0, 1, 3, 0) = -13; like(0, 0, 1, 1) = -13; like(0, -1, 1, 0) = -13; like(0, 0, 1, -1) = -13; like(3, 0, 2, 0) = -11; like(2, 0, 3, 0) = -12");
        DUE.calls("like(8, 0, 0, 0) = -1; like(-1, 0, 0, 0) = -1; like(3, 0, 8, 0) = -1; like(0, 9, -1, 0) = -1; like(0, 0, 0, 0) = 0");
    }

    private static void compare() {
        DUE.begin("17 compare");
        DUE.makes(0, 4, "4:1 4:2 4:3");
        DUE.makes(1, 5, "5:1 5:3");
        DUE.calls("compare(0, 1) = 2; step(0, 0) = 0; step(1, 0) = 1; step(2, 0) = 0; step(3, 0) = -4");
        DUE.calls("compare(1, 0) = 2; step(1, 0) = 2; compare(0, 0) = 0; result(1) = 3");
        DUE.makes(2, 4, "4:1");
        DUE.makes(3, 4, "4:7");
        DUE.calls("compare(2, 3) = 3; result(1) = 1; rate(1, 4) = 3; compare(2, 3) = 4; result(1) = 1; step(0, 0) = 0");
        DUE.calls("rate(1, 5) = 4; compare(2, 3) = 4; step(0, 0) = 1; step(1, 0) = 2; rate(0, 6) = 0; compare(2, 3) = 1; result(3) = 1; rate(0, 5) = 6; compare(2, 3) = 4");
        DUE.makes(4, 4, "");
        DUE.calls("compare(4, 4) = 0; result(1) = 0; compare(4, 0) = 6; result(6) = 3; compare(0, 4) = 6; result(5) = 3");

        DUE.begin("17 compare, duplicates");
        DUE.makes(0, 9, "4:5 1:5 7:40 4:6");
        DUE.makes(1, 9, "4:5 4:6");
        DUE.calls("compare(0, 1) = 2; result(7) = 2; step(0, 0) = 0; step(1, 0) = 1; step(2, 0) = 1; step(3, 0) = 0");
        DUE.calls("rate(3, 0) = 1; compare(0, 1) = 0; rate(3, 9) = 0; compare(0, 1) = 7; result(4) = 1; result(5) = 2; result(7) = 0");
        DUE.calls("rate(3, 2) = 9; compare(0, 1) = 4; step(0, 0) = 0; step(1, 0) = 1; step(1, 3) = 2");
        DUE.makes(2, 9, "9:0 9:0");
        DUE.makes(3, 9, "");
        DUE.calls("rate(3, 1) = 2; compare(2, 3) = 3; compare(3, 2) = 3; result(7) = 1; step(0, 3) = 2; step(1, 3) = 1");

        DUE.begin("17 compare, of what was then");
        DUE.makes(0, 4, "4:1 4:2");
        DUE.makes(1, 4, "4:1 4:9");
        DUE.calls("compare(0, 1) = 3; put(0, 0, 4, 5) = 1; rate(1, 9) = 3; rate(0, 99) = 0; put(1, 1, 4, 2) = 1; record(1, 12, 0) = 1");
        DUE.calls("result(0) = 3; result(2) = 1; result(3) = 0; result(4) = 1; step(1, 3) = 3; join(2, 0) = 2; join(3, 1) = 2");
        DUE.cells(2, "4:1 4:2");
        DUE.cells(3, "4:1 4:9");
        DUE.calls("compare(0, 1) = -11; record(1, 11, 0) = 1; compare(0, 1) = -12; compare(1, 7) = -12; compare(7, 1) = -11; compare(8, 0) = -1; compare(-1, 0) = -1");
        DUE.calls("compare(7, 8) = -1; compare(0, -1) = -1; result(0) = 3; result(1) = 2");
    }

    private static void result() {
        DUE.begin("18 result");
        DUE.calls("result(0) = -2; result(9) = -2; result(10) = -1; result(-1) = -1");
        DUE.makes(0, 4, "4:1 4:1 4:5 4:50 4:8 4:100");
        DUE.makes(1, 3, "3:1 3:6 3:70 3:8 3:100 3:100 3:3");
        DUE.calls("rate(0, 1) = 0; compare(0, 1) = 8; result(0) = 8; result(1) = 8; result(9) = 6");
        DUE.calls("result(2) = 3; result(3) = 1; result(4) = 1; result(5) = 1; result(6) = 2; result(7) = 2; result(8) = 4");
    }

    private static void resultSumsUp() {
        DUE.begin("18 result, alone");
        DUE.makes(0, 4, "4:1 4:1 4:1");
        DUE.makes(1, 8, "8:1 8:1");
        DUE.calls("rate(1, 9) = 3; rate(2, 1) = 2; rate(3, 1) = 1; compare(0, 1) = 5; result(1) = 5; result(2) = 0; result(3) = 0; result(4) = 0");
        DUE.calls("result(5) = 3; result(6) = 2; result(7) = 3; result(8) = 9; result(9) = 2");
        DUE.calls("rate(0, 99) = 0; rate(1, 1) = 9; compare(0, 1) = 3; result(4) = 2; result(3) = 0");
        DUE.makes(1, 4, "4:2 4:9");
        DUE.calls("compare(0, 1) = 3; result(3) = 2; result(4) = 0; result(9) = 2");
    }

    private static void step() {
        DUE.begin("19 step");
        DUE.calls("step(0, 0) = -2; step(-1, 0) = -1; step(0, 4) = -1; step(0, -1) = -1; step(" + MOST + ", 3) = -2; step(" + LEAST + ", 3) = -1");
        DUE.makes(0, 4, "4:1 4:2 4:2 4:4");
        DUE.makes(1, 4, "4:7 4:1 4:2 4:5");
        DUE.calls("rate(0, 1) = 0; compare(0, 1) = 4");
        DUE.calls("step(0, 0) = 2; step(0, 1) = -4; step(0, 2) = 0; step(0, 3) = 2; step(1, 0) = 0; step(1, 1) = 0; step(1, 2) = 1; step(1, 3) = 0");
        DUE.calls("step(2, 0) = 0; step(2, 1) = 1; step(2, 2) = 2; step(2, 3) = 0; step(3, 0) = 1; step(3, 1) = 2; step(3, 2) = -4; step(3, 3) = 1");
        DUE.calls("step(4, 0) = 0; step(4, 1) = 3; step(4, 2) = 3; step(4, 3) = 1; step(5, 0) = -4; step(" + MOST + ", 3) = -4; step(5, 4) = -1; step(-1, 0) = -1");
    }

    /** The kind of the merged array of two arrays of these kinds, both ways. */
    private static void mergedKind(int a, int b, int due) {
        DUE.calls("record(0, " + a + ", 1) = 1; record(1, " + b + ", 1) = 1");
        for (String pair : new String[] {"0, 1", "1, 0"}) {
            DUE.holds("compare(" + pair + ")", DUE.answerOf("compare(" + pair + ")") >= 0);
            DUE.calls("result(8) = " + due + "; join(2, 2) = " + DUE.answerOf("result(9)") + "; kind(2, 0) = " + due);
        }
    }

    private static void joinKinds() {
        int[][] joins = {
            {0, 9, 9, 9, 9, 9, 9, 9}, {9, 1, 4, 3, 4, 5, 6, 7}, {9, 4, 2, 4, 4, 5, 6, 7}, {9, 3, 4, 3, 4, 5, 6, 7},
            {9, 4, 4, 4, 4, 5, 6, 7}, {9, 5, 5, 5, 5, 5, 6, 7}, {9, 6, 6, 6, 6, 6, 6, 7}, {9, 7, 7, 7, 7, 7, 7, 7}};
        for (int a = 0; a < 8; a++) {
            DUE.begin("20 join, kinds beside " + a);
            for (int b = 0; b < 8; b++) mergedKind(a, b, joins[a][b]);
            for (int b = 8; b < 11; b++) mergedKind(a, b, 9);
        }
        DUE.begin("20 join, kinds of objects");
        for (int a = 8; a < 11; a++) {
            for (int b = 8; b < 11; b++) mergedKind(a, b, a == b ? a : 9);
        }
    }

    /** Two arrays of any objects with one cell each; the off rate makes them a pair. */
    private static void mean(String a, String b, String due) {
        DUE.makes(0, 9, a);
        DUE.makes(1, 9, b);
        DUE.holds("compare(0, 1)", DUE.answerOf("compare(0, 1)") <= 3);
        DUE.calls("join(2, 2) = 1; kind(2, 0) = 9");
        DUE.cells(2, due);
    }

    private static void joinMeans() {
        DUE.begin("20 join, means");
        mean("0:1", "0:1", "0:1");
        mean("0:1", "0:0", "0:0");
        mean("0:0", "0:0", "0:0");
        mean("0:1", "4:9", "0:1");
        mean("1:-3", "1:0", "1:-2");
        mean("1:127", "1:126", "1:126");
        mean("1:-1", "2:4", "4:1");
        mean("2:65535", "2:65534", "2:65534");
        mean("3:-32768", "1:-128", "3:-16448");
        mean("4:" + MOST, "4:" + MOST, "4:" + MOST);
        mean("4:" + LEAST, "4:" + MOST, "4:-1");
        mean("4:" + LEAST, "4:" + (LEAST + 1), "4:" + LEAST);
        mean("5:-7", "4:0", "5:-4");
        mean("6:1", "6:2", bits(0.1875f));
        mean("6:8", "4:-1", bits(0f));
        mean("4:16777217", "6:0", bits(8388608f));
        mean("4:16777217", "7:0", bits(8388608.5));
        mean("6:3", "7:-8", bits(-0.3125));
        mean("8:3", "8:4", "8:3");
        mean("6:1", "6:0", bits(0.0625f));
        mean("7:1", "6:0", bits(0.0625));
        mean("8:3", "4:8", "8:3");
        mean("4:4", "8:3", "4:4");
        mean("9:3", "10:4", "9:0");
        mean("10:4", "9:4", "10:4");
    }

    private static void join() {
        DUE.begin("20 join");
        DUE.calls("join(0, 0) = -2; join(8, 0) = -1; join(-1, 0) = -1; join(0, 3) = -1; join(0, -1) = -1");
        DUE.makes(0, 4, "4:1 4:1 4:3 4:10");
        DUE.makes(1, 5, "5:0 5:1 5:3 5:12 5:12 5:99");
        DUE.calls("rate(0, 2) = 0; rate(1, 9) = 3; compare(0, 1) = 5");
        DUE.calls("result(1) = 6; result(9) = 5; step(0, 0) = 0; step(0, 3) = 1; step(3, 3) = 1; step(4, 0) = 2; step(4, 3) = 1; step(5, 0) = 2");
        DUE.calls("join(2, 0) = 5; join(3, 1) = 5; join(4, 2) = 5; share(5, 2) = 1; join(2, 1) = 5");
        DUE.cells(5, "5:1 5:1 5:3 5:10 5:99");
        DUE.cells(2, "5:0 5:1 5:3 5:12 5:99");
        DUE.cells(3, "5:0 5:1 5:3 5:12 5:99");
        DUE.cells(4, "5:0 5:1 5:3 5:11 5:99");
        DUE.calls("compare(1, 0) = 5; join(0, 0) = 5");
        DUE.cells(0, "5:0 5:1 5:3 5:12 5:99");

        DUE.begin("20 join, its size");
        DUE.calls("record(0, 4, 20) = 1; record(1, 8, 20) = 1; rate(1, 9) = 3; rate(2, 1) = 2; compare(0, 1) = 40; result(1) = 40; result(9) = 2; join(2, 0) = 2");
        DUE.cells(2, "4:0 9:0");
        for (int i = 0; i < 20; i++) DUE.calls("put(0, " + i + ", 4, " + i + ") = 1");
        DUE.calls("compare(0, 1) = 40; result(9) = 21; join(2, 0) = -3; size(2) = 2; put(0, 19, 4, 18) = 1; compare(0, 1) = 40; result(9) = 20; join(2, 0) = 20");
    }

    /** Halves the number in record 0, by its mean with 0, this often. */
    private static void halve(int times) {
        for (int n = 0; n < times; n++) DUE.calls("compare(0, 1) = 3; join(0, 2) = 1");
    }

    private static void joinUnderflow() {
        DUE.begin("20 join, the least floats");
        DUE.makes(0, 6, "6:-1");
        DUE.makes(1, 6, "6:0");
        halve(123);
        DUE.cells(0, bits(-0x1p-126f));
        halve(1);
        DUE.cells(0, bits(-0x1p-127f));
        halve(22);
        DUE.cells(0, bits(-0x1p-149f));
        halve(1);
        DUE.cells(0, bits(0f));
        DUE.begin("20 join, small doubles");
        DUE.makes(0, 7, "7:-3");
        DUE.makes(1, 7, "7:0");
        halve(200);
        DUE.cells(0, bits(-3 * 0x1p-203));
    }

    private static void near() {
        DUE.begin("21 near");
        DUE.makes(3, 4, "4:1 4:2 4:3");
        DUE.calls("near(3) = -4; near(2) = -11; record(2, 11, 0) = 1; near(2) = -12; near(3) = -4; near(-1) = -1; near(8) = -1");
        DUE.makes(7, 4, "4:1 4:2 4:4");
        DUE.makes(5, 7, "4:1 4:2 4:5");
        DUE.calls("near(3) = 5; near(5) = 3; near(7) = 3");
        DUE.makes(0, 8, "8:1 8:2 8:3");
        DUE.calls("near(3) = 5; near(0) = 3; rate(0, 1) = 0; near(3) = 7; rate(0, 2) = 1; near(3) = 5");
        DUE.calls("share(6, 3) = 1; near(3) = 6; near(6) = 3; share(1, 3) = 1; near(6) = 1; near(3) = 1; near(1) = 3");
        DUE.calls("compare(0, 0) = 0; near(3) = 1; result(1) = 3; result(2) = 3; step(0, 0) = 0; result(8) = 8");
        DUE.makes(0, 8, "");
        DUE.makes(1, 8, "8:4 8:4 8:4 8:4 8:4");
        DUE.makes(3, 9, "8:4");
        DUE.calls("rate(3, 0) = 1; near(3) = 1; rate(3, 1) = 0; near(3) = 0");
    }

    private static void lag() {
        DUE.begin("22 lag");
        DUE.makes(0, 4, "4:1 4:2 4:3");
        DUE.makes(1, 6, "6:0 6:8 6:16 6:24");
        DUE.calls("lag(0, 1) = 101; lag(1, 0) = 99; lag(0, 0) = 100");
        DUE.makes(2, 4, "4:3 4:0 4:1");
        DUE.calls("lag(0, 2) = 98");
        DUE.makes(2, 4, "4:2 4:1");
        DUE.calls("lag(0, 2) = 99; lag(2, 0) = 99");
        DUE.makes(3, 4, "4:1 4:1");
        DUE.makes(4, 4, "4:1 4:7");
        DUE.calls("lag(4, 3) = 100; lag(3, 4) = 100; rate(0, 99) = 0");
        DUE.makes(5, 4, "4:5");
        DUE.calls("lag(0, 5) = -4");
        DUE.makes(5, 4, "");
        DUE.calls("lag(0, 5) = -4; lag(5, 0) = -4; lag(5, 5) = -4");
        DUE.calls("record(5, 9, 20) = 1; record(6, 9, 20) = 1; fill(5, 0, 1, 4, 1) = 0");
        for (int i = 0; i < 20; i++) DUE.calls("lay(5, " + i + ", 8, 1) = 1; lay(6, " + i + ", 10, 1) = 1");
        DUE.calls("lay(5, 0, 4, 7) = 1; lay(6, 19, 4, 7) = 1; lag(5, 6) = 119; lag(6, 5) = 81");
        DUE.calls("lag(7, 5) = -11; lag(5, 7) = -11; record(7, 11, 0) = 1; lag(7, 5) = -12; lag(5, 7) = -12; lag(8, 7) = -1; lag(7, -1) = -1; record(6, 12, 0) = 1");
        DUE.calls("lag(6, 7) = -11; lag(7, 6) = -12");
    }

    private static void vote() {
        DUE.begin("23 vote");
        DUE.makes(0, 4, "4:1 4:2 4:3 4:4 4:5");
        DUE.makes(1, 1, "1:1 1:9 1:7 1:8 1:6");
        DUE.makes(2, 9, "8:0 4:2 4:7 9:0 1:5");
        DUE.calls("vote(3, 0, 1, 2) = 1; kind(3, 0) = 4");
        DUE.cells(3, "4:1 4:2 4:7 4:4 4:5");
        DUE.calls("vote(4, 2, 1, 0) = 1; kind(4, 0) = 9");
        DUE.cells(4, "1:1 4:2 4:7 9:0 1:5");
        DUE.calls("share(5, 0) = 1; vote(0, 0, 1, 2) = 1; kind(5, 1) = 5");
        DUE.cells(5, "4:1 4:2 4:3 4:4 4:5");
        DUE.cells(0, "4:1 4:2 4:7 4:4 4:5");
        DUE.calls("vote(6, 1, 0, 5) = -21; kind(6, 0) = 12; rate(0, 99) = 0; vote(6, 5, 1, 2) = 1");
        DUE.cells(6, "4:1 4:2 4:7 4:4 4:5");
        DUE.calls("record(7, 4, 4) = 1; vote(6, 5, 5, 7) = -2; vote(6, 5, 7, 5) = -2; vote(6, 7, 5, 5) = -2; size(6) = 5; record(7, 4, 0) = 1; vote(6, 7, 7, 7) = 0; size(6) = 0");
        DUE.calls("record(7, 12, 0) = 1; record(6, 11, 0) = 1; vote(3, 7, 6, 6) = -11; vote(3, 6, 7, 7) = -12; vote(3, 0, 7, 6) = -11; vote(3, 0, 6, 7) = -12");
        DUE.calls("vote(3, 0, 0, 7) = -11; vote(3, 0, 0, 6) = -12; vote(8, 7, 0, 0) = -1; vote(3, 7, 8, 0) = -1; vote(3, 7, 0, -1) = -1; vote(3, -1, 0, 0) = -1");
    }

    public static void main(String[] args) {
        rate();
        like();
        compare();
        result();
        resultSumsUp();
        step();
        joinKinds();
        joinMeans();
        join();
        joinUnderflow();
        near();
        lag();
        vote();
        DUE.end();
    }
}
