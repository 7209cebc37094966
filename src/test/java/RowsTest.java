import java.io.IOException;

/** Promises 15 to 23: rows beside one another. Each test quotes the words that it would find broken. */
public final class RowsTest {
    private final Due due;

    private RowsTest(Due due) {
        this.due = due;
    }

    private void rate() {
        due.quote(15, "Sets a rate. .. `v`: the new rate, .. Returns the previous rate");
        due.calls("rate(0, 7) = 0; rate(0, 8) = 7; rate(0, 0) = 8; rate(1, 7) = 3; rate(1, 8) = 7; rate(2, 7) = 2; rate(2, 8) = 7; rate(3, 7) = 1; rate(3, 8) = 7");
        due.calls("rate(0, 0) = 0; rate(1, 8) = 8; rate(2, 8) = 8; rate(3, 8) = 8");
        due.quote(15, "`what`: 0 to 3 .. BAD");
        due.refused("rate(-1, 5) = -1; rate(4, 5) = -1; rate(MOST, 5) = -1; rate(LEAST, 5) = -1");
        due.quote(15, "in its range .. BAD");
        due.calls("rate(0, 99) = 0; rate(0, 0) = 99; rate(1, 9) = 3; rate(1, 1) = 9; rate(2, 9) = 2; rate(2, 1) = 9; rate(3, 9) = 1; rate(3, 0) = 9; rate(3, 2) = 0");
        due.refused("rate(0, 100) = -1; rate(0, -1) = -1; rate(1, 10) = -1; rate(1, 0) = -1; rate(2, 10) = -1; rate(2, 0) = -1; rate(3, 10) = -1; rate(3, -1) = -1");
        due.refused("rate(0, MOST) = -1; rate(0, LEAST) = -1; rate(1, MOST) = -1; rate(2, LEAST) = -1; rate(3, MOST) = -1; rate(3, LEAST) = -1");
        due.calls("rate(0, 1) = 0; rate(1, 2) = 1; rate(2, 2) = 1; rate(3, 1) = 2");
    }

    private void like() {
        due.quote(16, "Compares two cells. .. Returns 0 alike, 1 near, 2 off");
        due.makes(0, 4, "4:5 4:6 4:8");
        due.makes(1, 7, "7:40 7:56");
        due.calls("rate(0, 1) = 0; like(0, 0, 1, 0) = 0; like(0, 1, 1, 0) = 1; like(0, 2, 1, 0) = 2; like(0, 0, 1, 1) = 2; like(0, 1, 1, 1) = 1; like(0, 2, 1, 1) = 1");
        due.calls("like(1, 0, 0, 0) = 0; like(1, 1, 0, 0) = 2; like(0, 0, 0, 1) = 1; like(0, 0, 0, 0) = 0; like(0, 0, 0, 2) = 2");
        due.quote(16, "`a`: a record .. BAD");
        due.calls("record(0, 4, 1) = 1");
        due.refused("like(-1, 0, 0, 0) = -1; like(8, 0, 0, 0) = -1; like(MOST, 0, 0, 0) = -1; like(LEAST, 0, 0, 0) = -1");
        due.quote(16, "`b`: a record .. BAD");
        due.calls("record(0, 4, 1) = 1");
        due.refused("like(0, 0, -1, 0) = -1; like(0, 0, 8, 0) = -1; like(0, 0, MOST, 0) = -1; like(0, 0, LEAST, 0) = -1");
        due.quote(16, "null .. of a");
        due.calls("record(0, 4, 1) = 1");
        due.refused("like(1, 0, 0, 0) = -11; like(1, 0, 1, 0) = -11");
        due.quote(16, "no array .. of a");
        due.calls("record(0, 4, 1) = 1; record(1, 11, 0) = 1");
        due.refused("like(1, 0, 0, 0) = -12; like(1, 0, 1, 0) = -12");
        due.quote(16, "`i`: index of a cell of its array .. index of a");
        due.calls("record(0, 4, 3) = 1; like(0, 0, 0, 0) = 0; like(0, 2, 0, 0) = 0");
        due.refused("like(0, 3, 0, 0) = -13; like(0, -1, 0, 0) = -13; like(0, MOST, 0, 0) = -13; like(0, LEAST, 0, 0) = -13");
        due.calls("record(1, 4, 0) = 1");
        due.refused("like(1, 0, 0, 0) = -13");
        due.quote(16, "`j`: index of a cell of its array .. then the same of b");
        due.calls("record(0, 4, 3) = 1; like(0, 0, 0, 2) = 0; record(1, 11, 0) = 1; record(2, 4, 0) = 1");
        due.refused("like(0, 0, 0, 3) = -13; like(0, 0, 0, -1) = -13; like(0, 0, 0, MOST) = -13; like(0, 0, 0, LEAST) = -13; like(0, 0, 2, 0) = -13; like(0, 0, 3, 0) = -11; like(0, 0, 1, 0) = -12");
        due.quote(16, "BAD; null; no array; index of a; then the same of b");
        due.calls("record(0, 4, 1) = 1; record(1, 11, 0) = 1; record(2, 4, 1) = 1");
        due.refused("like(3, 9, 8, 9) = -1; like(8, 9, 3, 9) = -1; like(3, 9, 1, 9) = -11; like(1, 9, 3, 9) = -12; like(0, 1, 3, 9) = -13; like(0, 1, 1, 9) = -13");
        due.refused("like(0, 0, 3, 9) = -11; like(0, 0, 1, 9) = -12; like(0, 0, 2, 1) = -13");
    }

    private void compare() {
        due.quote(17, "Makes the comparison of two arrays, .. `a`: the record of the left array .. `b`: the record of the right array");
        due.makes(0, 4, "4:1 4:2 4:3");
        due.makes(1, 5, "5:1 5:3");
        due.calls("compare(0, 1) = 2; result(0) = 2; step(0, 0) = 0; step(1, 0) = 1; step(1, 1) = 1; step(2, 0) = 0; step(2, 2) = 1; step(3, 0) = -4");
        due.calls("compare(1, 0) = 2; step(1, 0) = 2; step(1, 2) = 1; compare(0, 0) = 0; result(1) = 3");
        due.quote(17, "in place of an earlier one.");
        due.makes(0, 4, "4:1 4:2");
        due.makes(1, 8, "8:1");
        due.calls("compare(0, 1) = 5; result(0) = 5; result(1) = 2; result(8) = 9; compare(1, 1) = 0; result(0) = 0; result(1) = 1; result(8) = 8; step(1, 0) = -4");
        due.quote(17, "Returns the cost of the best alignment");
        due.makes(0, 4, "");
        due.makes(1, 4, "4:1 4:1 4:5");
        due.makes(2, 8, "8:1 8:2 8:3");
        due.calls("compare(0, 0) = 0; result(1) = 0; compare(0, 1) = 5; compare(1, 0) = 5; compare(1, 2) = 9; compare(2, 1) = 9; rate(1, 9) = 3; compare(1, 2) = 11");
        due.quote(17, "BAD");
        due.calls("record(0, 4, 1) = 1; compare(0, 0) = 0");
        due.refused("compare(-1, 0) = -1; compare(8, 0) = -1; compare(MOST, 0) = -1; compare(LEAST, 0) = -1; compare(0, -1) = -1; compare(0, 8) = -1; compare(0, MOST) = -1; compare(0, LEAST) = -1");
        due.quote(17, "null .. of a");
        due.makes(0, 4, "4:1");
        due.calls("compare(0, 0) = 0");
        due.refused("compare(1, 0) = -11; compare(1, 1) = -11");
        due.quote(17, "no array of a");
        due.calls("record(0, 4, 1) = 1; record(1, 11, 0) = 1; compare(0, 0) = 0");
        due.refused("compare(1, 0) = -12; compare(1, 1) = -12");
        due.quote(17, "then the same of b");
        due.calls("record(0, 4, 1) = 1; record(1, 11, 0) = 1; compare(0, 0) = 0");
        due.refused("compare(0, 2) = -11; compare(0, 1) = -12");
        due.quote(17, "BAD; null; no array of a; then the same of b");
        due.calls("record(1, 11, 0) = 1");
        due.refused("compare(2, 8) = -1; compare(1, -1) = -1; compare(2, 1) = -11; compare(1, 2) = -12");
    }

    private void result() {
        due.quote(18, "Returns a number of the comparison. .. `what`: 0 the cost, 1 the number of steps .. Returns that number");
        due.makes(0, 4, "4:1 4:1 4:5 4:50 4:8 4:100");
        due.makes(1, 3, "3:1 3:6 3:70 3:8 3:100 3:100 3:3");
        due.calls("rate(0, 1) = 0; compare(0, 1) = 8; result(0) = 8; result(1) = 8");
        due.quote(18, "pairs of cells that are 2 alike, 3 near, 4 off");
        due.makes(0, 4, "4:1 4:2 4:3 4:10 4:20 4:30");
        due.makes(1, 4, "4:1 4:2 4:3 4:11 4:21 4:99");
        due.calls("rate(0, 1) = 0; compare(0, 1) = 5; result(2) = 3; result(3) = 2; result(4) = 1; result(5) = 0; result(6) = 0; result(7) = 0");
        due.quote(18, "5 cells alone of the left array, 6 of the right array,");
        due.makes(0, 4, "4:1 4:2 4:3 4:4");
        due.makes(1, 8, "8:1");
        due.calls("rate(1, 9) = 3; compare(0, 1) = 10; result(5) = 4; result(6) = 1; result(2) = 0; result(4) = 0; compare(1, 0) = 10; result(5) = 1; result(6) = 4");
        due.quote(18, "7 duplicates (of both, cells alone that cost the rate twice),");
        due.makes(0, 4, "4:1 4:1 4:1");
        due.makes(1, 8, "8:1 8:1");
        due.calls("rate(1, 9) = 3; rate(2, 1) = 2; compare(0, 1) = 5; result(5) = 3; result(6) = 2; result(7) = 3; compare(1, 1) = 0; result(7) = 0");
        due.quote(18, "8 the kind of the merged array, 9 the number of its cells");
        due.makes(0, 4, "4:1 4:1 4:1");
        due.makes(1, 5, "5:1");
        due.calls("compare(0, 1) = 2; result(8) = 5; result(1) = 3; result(9) = 1; compare(0, 0) = 0; result(8) = 4; result(9) = 3; record(1, 8, 0) = 1; compare(1, 1) = 0; result(8) = 8; result(9) = 0");
        due.quote(18, "`what` .. BAD");
        due.refused("result(-1) = -1; result(10) = -1; result(MOST) = -1; result(LEAST) = -1");
        due.calls("record(0, 4, 1) = 1; compare(0, 0) = 0");
        due.refused("result(-1) = -1; result(10) = -1; result(MOST) = -1; result(LEAST) = -1");
        due.quote(18, "STATE if there is no comparison");
        due.calls("record(0, 4, 1) = 1; compare(0, 1) = -11");
        for (int what = 0; what < 10; what++) due.refused("result(" + what + ") = -2");
    }

    private void step() {
        due.quote(19, "Returns a property of a step of the comparison. .. `what`: 0 the step (0 to 2), 1 the index of its cell of the left array, 2 that of the right array, 3 its cost .. Returns that value");
        due.makes(0, 4, "4:1 4:2 4:2 4:4");
        due.makes(1, 4, "4:7 4:1 4:2 4:5");
        due.calls("rate(0, 1) = 0; compare(0, 1) = 4; step(0, 0) = 2; step(0, 2) = 0; step(0, 3) = 2; step(1, 0) = 0; step(1, 1) = 0; step(1, 2) = 1; step(1, 3) = 0");
        due.calls("step(2, 0) = 0; step(2, 1) = 1; step(2, 2) = 2; step(2, 3) = 0; step(3, 0) = 1; step(3, 1) = 2; step(3, 3) = 1; step(4, 0) = 0; step(4, 1) = 3; step(4, 2) = 3; step(4, 3) = 1");
        due.quote(19, "NONE if it has no such cell,");
        due.makes(0, 4, "4:1");
        due.makes(1, 4, "");
        due.calls("compare(0, 1) = 2; step(0, 0) = 1; step(0, 1) = 0; step(0, 2) = -4; compare(1, 0) = 2; step(0, 0) = 2; step(0, 1) = -4; step(0, 2) = 0");
        due.quote(19, "or there is no such step");
        due.makes(0, 4, "4:1 4:2");
        due.calls("compare(0, 0) = 0");
        for (int what = 0; what < 4; what++) due.refused("step(2, " + what + ") = -4; step(MOST, " + what + ") = -4");
        due.calls("record(1, 4, 0) = 1; compare(1, 1) = 0; step(0, 0) = -4; step(0, 3) = -4");
        due.quote(19, "`k`: index of the step, 0 or more .. BAD if k is negative");
        due.refused("step(-1, 0) = -1; step(LEAST, 3) = -1");
        due.makes(0, 4, "4:1 4:2");
        due.calls("compare(0, 0) = 0; step(0, 1) = 0; step(1, 1) = 1");
        due.refused("step(-1, 0) = -1; step(LEAST, 3) = -1");
        due.quote(19, "BAD .. or what is out of its range");
        due.refused("step(0, -1) = -1; step(0, 4) = -1; step(MOST, MOST) = -1; step(0, LEAST) = -1");
        due.calls("record(0, 4, 1) = 1; compare(0, 0) = 0");
        due.refused("step(0, -1) = -1; step(0, 4) = -1; step(1, 4) = -1; step(MOST, MOST) = -1; step(0, LEAST) = -1");
        due.quote(19, "STATE if there is no comparison");
        for (int what = 0; what < 4; what++) due.refused("step(0, " + what + ") = -2; step(MOST, " + what + ") = -2");
    }

    private void join() {
        due.quote(20, "Lets a record hold the merged array, .. Returns the number of its cells");
        due.makes(0, 4, "4:1 4:1 4:3 4:10");
        due.makes(1, 5, "5:0 5:1 5:3 5:12 5:12 5:99");
        due.calls("rate(0, 2) = 0; rate(1, 9) = 3; compare(0, 1) = 5; result(1) = 6; result(9) = 5; join(7, 0) = 5; kind(7, 0) = 5");
        due.cells(7, "5:1 5:1 5:3 5:10 5:99");
        due.calls("record(3, 4, 0) = 1; compare(3, 3) = 0; join(7, 2) = 0; size(7) = 0; kind(7, 0) = 4");
        due.quote(20, "a new one.");
        due.makes(0, 4, "4:1 4:2");
        due.calls("compare(0, 0) = 0; share(1, 0) = 1; join(0, 0) = 2; kind(1, 1) = 1; put(0, 0, 4, 9) = 1; join(2, 0) = 2; join(3, 0) = 2; kind(3, 1) = 3; put(2, 1, 4, 8) = 1");
        due.cells(1, "4:1 4:2");
        due.cells(3, "4:1 4:2");
        due.quote(20, "`mode`: 0 to 2");
        due.makes(0, 4, "4:10 4:20 4:7");
        due.makes(1, 4, "4:13 4:20");
        due.calls("rate(0, 9) = 0; compare(0, 1) = 3; join(2, 0) = 3; join(3, 1) = 3; join(4, 2) = 3");
        due.cells(2, "4:10 4:20 4:7");
        due.cells(3, "4:13 4:20 4:7");
        due.cells(4, "4:11 4:20 4:7");
        due.quote(20, "`r`: a record .. BAD");
        due.refused("join(-1, 0) = -1; join(8, 0) = -1; join(MOST, 0) = -1; join(LEAST, 0) = -1");
        due.calls("record(0, 4, 1) = 1; compare(0, 0) = 0");
        due.refused("join(-1, 0) = -1; join(8, 0) = -1; join(MOST, 0) = -1; join(LEAST, 0) = -1");
        due.quote(20, "`mode` .. BAD");
        due.refused("join(0, -1) = -1; join(0, 3) = -1; join(0, MOST) = -1; join(0, LEAST) = -1");
        due.calls("record(0, 4, 1) = 1; compare(0, 0) = 0");
        due.refused("join(0, -1) = -1; join(0, 3) = -1; join(0, MOST) = -1; join(0, LEAST) = -1");
        due.quote(20, "STATE if there is no comparison");
        due.calls("record(0, 4, 1) = 1");
        due.refused("join(0, 0) = -2; join(1, 1) = -2; join(7, 2) = -2");
        due.quote(20, "FULL if it would have more than 20 cells");
        due.calls("record(1, 8, 1) = 1; record(0, 4, 20) = 1; rate(1, 9) = 3; rate(2, 1) = 2");
        for (int i = 0; i < 20; i++) due.calls("put(0, " + i + ", 4, " + i + ") = 1");
        due.calls("compare(0, 1) = 21; result(9) = 21");
        due.refused("join(2, 0) = -3; join(1, 1) = -3; join(0, 2) = -3; join(8, 0) = -1; join(0, 3) = -1");
        due.calls("put(0, 19, 4, 18) = 1; compare(0, 1) = 21; result(1) = 21; result(9) = 20; join(2, 0) = 20; size(2) = 20");
    }

    private void near() {
        due.quote(21, "Finds the record, .. whose array (as the right one) has the least cost with that of a record (as the left one) .. Returns that record");
        due.makes(3, 4, "4:1 4:2 4:3");
        due.makes(0, 8, "8:1 8:2 8:3");
        due.makes(5, 7, "4:1 4:2 4:5");
        due.makes(7, 4, "4:1 4:2 4:4");
        due.calls("near(3) = 5; rate(0, 1) = 0; near(3) = 7; near(7) = 3; near(0) = 3; rate(0, 0) = 1; put(7, 2, 4, 3) = 1; near(3) = 7; near(7) = 3");
        due.calls("compare(0, 0) = 0; near(3) = 7; result(1) = 3; result(8) = 8; step(0, 0) = 0; result(0) = 0");
        due.quote(21, "of all others .. NONE if there is none");
        due.makes(3, 4, "4:1 4:2 4:3");
        due.refused("near(3) = -4");
        due.makes(7, 8, "8:1");
        due.calls("near(3) = 7; near(7) = 3; share(7, 3) = 1; near(3) = 7; near(7) = 3");
        due.quote(21, "that hold an array, .. NONE if there is none");
        due.calls("record(3, 4, 2) = 1; record(0, 11, 0) = 1; near(3) = -4; record(4, 9, 0) = 1; near(3) = 4; near(4) = 3; record(4, 12, 0) = 1; near(3) = -4");
        due.quote(21, "of several the least.");
        due.makes(3, 4, "4:1");
        due.makes(6, 4, "4:2");
        due.makes(4, 4, "4:3");
        due.calls("near(3) = 4; share(0, 6) = 1; near(3) = 0; near(6) = 0; near(0) = 6; put(6, 0, 4, 1) = 1; near(3) = 0; share(5, 3) = 1; near(3) = 0; near(5) = 0");
        due.quote(21, "`r`: a record .. BAD");
        due.calls("record(0, 4, 1) = 1; record(1, 4, 1) = 1");
        due.refused("near(-1) = -1; near(8) = -1; near(MOST) = -1; near(LEAST) = -1");
        due.quote(21, "null");
        due.calls("record(0, 4, 1) = 1");
        due.refused("near(1) = -11; near(7) = -11");
        due.quote(21, "no array");
        due.calls("record(0, 4, 1) = 1; record(1, 11, 0) = 1");
        due.refused("near(1) = -12");
    }

    private void lag() {
        due.quote(22, "Finds the shift s .. for which most cells i of a are alike to cell i + s of b .. Returns 100 + s");
        due.makes(0, 4, "4:1 4:2 4:3");
        due.makes(1, 6, "6:0 6:8 6:16 6:24");
        due.calls("lag(0, 1) = 101; lag(1, 0) = 99; lag(0, 0) = 100");
        due.makes(2, 4, "4:3 4:0 4:1");
        due.calls("lag(0, 2) = 98; lag(2, 0) = 98; rate(0, 99) = 0; lag(0, 1) = 101; lag(0, 2) = 98");
        due.makes(2, 4, "4:2 4:9 4:9 4:1 4:2");
        due.calls("lag(0, 2) = 103; lag(2, 0) = 97");
        due.quote(22, "from -19 to 19");
        due.calls("record(0, 9, 20) = 1; record(1, 8, 20) = 1; lay(0, 0, 10, 3) = 1; record(2, 9, 20) = 1");
        for (int i = 0; i < 20; i++) due.calls("lay(1, " + i + ", 8, 1) = 1; lay(2, " + i + ", 4, 1) = 1");
        due.calls("lay(2, 19, 10, 3) = 1; lag(0, 2) = 119; lag(2, 0) = 81; lag(0, 1) = -4; lay(1, 0, 9, 0) = 1; lag(2, 1) = -4; lay(2, 18, 9, 0) = 1; lag(2, 1) = 82; lag(1, 2) = 118");
        due.quote(22, "of several the one nearest to 0,");
        due.makes(0, 4, "4:1 4:7 4:8 4:1");
        due.makes(1, 4, "4:1 4:9 4:9 4:9");
        due.calls("lag(0, 1) = 100; lag(1, 0) = 100");
        due.makes(1, 4, "4:9 4:9 4:1 4:9");
        due.calls("lag(0, 1) = 99; lag(1, 0) = 101");
        due.makes(0, 4, "4:1 4:8 4:7 4:1");
        due.makes(1, 4, "4:9 4:1 4:9 4:9");
        due.calls("lag(0, 1) = 101; lag(1, 0) = 99");
        due.quote(22, "of two of these the negative one.");
        due.makes(0, 4, "4:1 4:2");
        due.makes(1, 4, "4:2 4:1");
        due.calls("lag(0, 1) = 99; lag(1, 0) = 99");
        due.makes(1, 4, "4:9 4:1 4:9");
        due.makes(0, 4, "4:1 4:9 4:1");
        due.makes(2, 4, "4:8 4:1 4:8");
        due.calls("lag(0, 2) = 99; lag(2, 0) = 99; lag(0, 1) = 99");
    }

    private void lagFaults() {
        due.quote(22, "NONE if there are no such cells for any shift");
        due.makes(0, 4, "4:1 4:2 4:3");
        due.makes(1, 4, "4:5 4:6");
        due.makes(2, 4, "");
        due.calls("rate(0, 99) = 0");
        due.refused("lag(0, 1) = -4; lag(1, 0) = -4; lag(0, 2) = -4; lag(2, 0) = -4; lag(2, 2) = -4");
        due.quote(22, "`a`: a record .. BAD");
        due.calls("record(0, 4, 1) = 1");
        due.refused("lag(-1, 0) = -1; lag(8, 0) = -1; lag(MOST, 0) = -1; lag(LEAST, 0) = -1");
        due.quote(22, "`b`: a record .. BAD");
        due.calls("record(0, 4, 1) = 1");
        due.refused("lag(0, -1) = -1; lag(0, 8) = -1; lag(0, MOST) = -1; lag(0, LEAST) = -1");
        due.quote(22, "null .. of a");
        due.calls("record(0, 4, 1) = 1");
        due.refused("lag(1, 0) = -11; lag(1, 1) = -11");
        due.quote(22, "no array of a");
        due.calls("record(0, 4, 1) = 1; record(1, 11, 0) = 1");
        due.refused("lag(1, 0) = -12; lag(1, 1) = -12");
        due.quote(22, "then the same of b");
        due.calls("record(0, 4, 1) = 1; record(1, 11, 0) = 1");
        due.refused("lag(0, 2) = -11; lag(0, 1) = -12");
        due.quote(22, "BAD; null; no array of a; then the same of b");
        due.calls("record(1, 11, 0) = 1");
        due.refused("lag(2, 8) = -1; lag(1, -1) = -1; lag(2, 1) = -11; lag(1, 2) = -12");
    }

    private void vote() {
        due.quote(23, "Lets a record hold a new array of the kind and length of that of a: .. `r`: the record that gets the array");
        due.makes(0, 5, "5:1 5:2");
        due.makes(1, 1, "1:1 1:2");
        due.calls("vote(3, 0, 1, 1) = 0; kind(3, 0) = 5; kind(3, 1) = 3; size(3) = 2; share(5, 0) = 1; vote(0, 0, 0, 0) = 0; kind(5, 1) = 5; kind(0, 1) = 0; put(0, 0, 4, 9) = 1");
        due.cells(5, "5:1 5:2");
        due.calls("record(7, 10, 0) = 1; record(6, 4, 0) = 1; vote(3, 7, 6, 6) = 0; size(3) = 0; kind(3, 0) = 10");
        due.quote(23, "at each index the cell of a if it is alike to that of b or that of c");
        due.makes(0, 4, "4:1 4:2 4:3");
        due.makes(1, 9, "1:1 8:2 7:24");
        due.makes(2, 9, "9:0 6:16 3:3");
        due.calls("vote(3, 0, 1, 2) = 0");
        due.cells(3, "4:1 4:2 4:3");
        due.quote(23, "otherwise the cell of b if it is alike to that of c");
        due.makes(0, 4, "4:1 4:2");
        due.makes(1, 1, "1:7 1:8");
        due.makes(2, 6, "6:56 6:64");
        due.calls("vote(3, 0, 1, 2) = 0; kind(3, 0) = 4");
        due.cells(3, "4:7 4:8");
        due.makes(0, 9, "9:0 8:1");
        due.calls("vote(3, 0, 1, 2) = 0; vote(4, 0, 2, 1) = 0");
        due.cells(3, "1:7 1:8");
        due.cells(4, "6:7f 6:8f");
        due.quote(23, "otherwise the cell of a (then the index is split). .. Returns the number of split indices");
        due.makes(0, 4, "4:1 4:2 4:3 4:4");
        due.makes(1, 4, "4:5 4:2 4:6 4:7");
        due.makes(2, 4, "4:8 4:9 4:6 4:3");
        due.calls("rate(0, 99) = 0; vote(3, 0, 1, 2) = 2");
        due.cells(3, "4:1 4:2 4:6 4:4");
        due.makes(4, 0, "0:1 0:1 0:1 0:1");
        due.makes(5, 8, "8:1 8:1 8:1 8:1");
        due.calls("vote(3, 0, 4, 5) = 4");
        due.cells(3, "4:1 4:2 4:3 4:4");
    }

    private void voteFaults() {
        due.quote(23, "`r`: .. BAD");
        due.calls("record(0, 4, 1) = 1");
        due.refused("vote(-1, 0, 0, 0) = -1; vote(8, 0, 0, 0) = -1; vote(MOST, 0, 0, 0) = -1; vote(LEAST, 0, 0, 0) = -1");
        due.quote(23, "`a`: a record .. BAD");
        due.calls("record(0, 4, 1) = 1");
        due.refused("vote(1, -1, 0, 0) = -1; vote(1, 8, 0, 0) = -1; vote(1, MOST, 0, 0) = -1; vote(1, LEAST, 0, 0) = -1");
        due.quote(23, "`b`: a record .. BAD");
        due.calls("record(0, 4, 1) = 1");
        due.refused("vote(1, 0, -1, 0) = -1; vote(1, 0, 8, 0) = -1; vote(1, 0, MOST, 0) = -1; vote(1, 0, LEAST, 0) = -1");
        due.quote(23, "`c`: a record .. BAD");
        due.calls("record(0, 4, 1) = 1");
        due.refused("vote(1, 0, 0, -1) = -1; vote(1, 0, 0, 8) = -1; vote(1, 0, 0, MOST) = -1; vote(1, 0, 0, LEAST) = -1");
        due.quote(23, "null .. of a");
        due.calls("record(0, 4, 1) = 1");
        due.refused("vote(3, 7, 0, 0) = -11; vote(7, 7, 7, 7) = -11");
        due.quote(23, "no array of a");
        due.calls("record(0, 4, 1) = 1; record(6, 11, 0) = 1");
        due.refused("vote(3, 6, 0, 0) = -12; vote(6, 6, 6, 6) = -12");
        due.quote(23, "the same of b");
        due.calls("record(0, 4, 1) = 1; record(6, 11, 0) = 1");
        due.refused("vote(3, 0, 7, 0) = -11; vote(3, 0, 6, 0) = -12");
        due.quote(23, "the same of c");
        due.calls("record(0, 4, 1) = 1; record(6, 11, 0) = 1");
        due.refused("vote(3, 0, 0, 7) = -11; vote(3, 0, 0, 6) = -12");
        due.quote(23, "STATE if the lengths are different");
        due.calls("record(0, 4, 2) = 1; record(1, 4, 1) = 1; record(2, 4, 3) = 1");
        due.refused("vote(3, 0, 0, 1) = -2; vote(3, 0, 1, 0) = -2; vote(3, 1, 0, 0) = -2; vote(3, 0, 0, 2) = -2; vote(3, 0, 2, 0) = -2; vote(3, 2, 0, 0) = -2; vote(3, 0, 1, 1) = -2; vote(3, 0, 1, 2) = -2");
        due.quote(23, "-20 - i for the first index i at which the cell of b is taken but does not fit the kind");
        due.makes(0, 1, "1:1 1:2 1:3");
        due.makes(1, 4, "4:1 4:9 4:9");
        due.makes(2, 9, "8:5 4:2 4:9");
        due.makes(3, 9, "4:6 4:9 1:9");
        due.refused("vote(5, 0, 1, 2) = -22; vote(0, 0, 1, 2) = -22; vote(5, 0, 1, 3) = -21; vote(5, 0, 1, 1) = -21");
        due.calls("vote(5, 0, 3, 1) = -21; put(0, 1, 1, 9) = 1; vote(5, 0, 3, 1) = 0");
        due.cells(5, "1:1 1:9 1:9");
        due.makes(0, 8, "9:0 8:1 8:2");
        due.refused("vote(5, 0, 1, 1) = -20");
        due.calls("record(0, 1, 20) = 1; record(1, 4, 20) = 1; put(1, 19, 4, 1) = 1; vote(5, 0, 1, 1) = -39; put(0, 19, 1, 1) = 1; vote(5, 0, 1, 1) = 0");
        due.quote(23, "BAD; null; no array of a; the same of b; the same of c; STATE");
        due.calls("record(6, 11, 0) = 1; record(0, 1, 2) = 1; record(1, 4, 2) = 1; put(1, 0, 4, 9) = 1; record(2, 4, 1) = 1");
        due.refused("vote(8, 7, 6, 7) = -1; vote(3, 7, 8, 6) = -1; vote(3, 6, 7, -1) = -1; vote(3, 7, 6, 6) = -11; vote(3, 6, 7, 7) = -12; vote(3, 0, 7, 6) = -11; vote(3, 0, 6, 7) = -12; vote(3, 0, 2, 7) = -11; vote(3, 0, 2, 6) = -12; vote(3, 0, 1, 2) = -2");
    }

    private void all() {
        rate();
        like();
        compare();
        result();
        step();
        join();
        near();
        lag();
        lagFaults();
        vote();
        voteFaults();
    }

    /** The second argument is the document's file. */
    public static void main(String[] args) throws IOException {
        Due due = new Due("promises 15 to 23", new Document(args[1]));
        new RowsTest(due).all();
        due.endQuoting(15, 23);
    }
}
