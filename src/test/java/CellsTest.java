import java.io.IOException;

/** Promises 1 to 14: records and cells. Each test quotes the words that it would find broken. */
public final class CellsTest {
    static final String[] NEW_CELLS = {"0:0", "1:0", "2:0", "3:0", "4:0", "5:0", "6:0", "7:0", "9:0", "9:0", "9:0"};
    /** The kinds from 0 to 7 that a number of each sort fits. */
    static final String[] FITS = {"0", "1 3 4 5 6 7", "2 4 5 6 7", "3 4 5 6 7", "4 5 6 7", "5 6 7", "6 7", "7"};

    private final Due due;

    private CellsTest(Due due) {
        this.due = due;
    }

    private void newObject() {
        due.quote(1, "Creates an object whose records are all empty.");
        for (int r = 0; r < 8; r++) due.calls("kind(" + r + ", 0) = 12; kind(" + r + ", 1) = -4; size(" + r + ") = -11");
        due.calls("count(0) = 0; count(1) = 0; count(2) = 0; count(3) = 0; count(4) = 0; count(5) = 0");
    }

    private void record() {
        due.quote(2, "Sets what a record holds .. Returns 1");
        due.calls("record(3, 4, 2) = 1; kind(3, 0) = 4; share(5, 3) = 1; record(3, 8, 1) = 1; kind(3, 0) = 8; size(3) = 1");
        due.calls("record(3, 11, 1) = 1; kind(3, 0) = 11; record(3, 12, 1) = 1; kind(3, 0) = 12; record(3, 0, 1) = 1; kind(3, 0) = 0");
        due.calls("kind(5, 0) = 4; size(5) = 2; record(5, 4, 2) = 1; put(5, 0, 4, 9) = 1; record(5, 4, 2) = 1");
        due.cells(5, "4:0 4:0");
        due.quote(2, "`r`: a record .. BAD");
        due.calls("record(0, 4, 1) = 1; record(7, 4, 1) = 1");
        for (int kind : new int[] {4, 11, 12}) {
            due.refused("record(-1, " + kind + ", 1) = -1; record(8, " + kind + ", 1) = -1");
            due.refused("record(LEAST, " + kind + ", 1) = -1; record(MOST, " + kind + ", 1) = -1");
        }
        due.quote(2, "`kind`: 0 to 10: a new array of this kind");
        for (int kind = 0; kind <= 10; kind++) {
            due.calls("record(3, " + kind + ", 2) = 1; kind(3, 0) = " + kind + "; kind(3, 1) = 3");
            due.cells(3, NEW_CELLS[kind] + " " + NEW_CELLS[kind]);
        }
        due.quote(2, "11: a single tag");
        due.calls("record(3, 4, 1) = 1; record(3, 11, 1) = 1; kind(3, 0) = 11; kind(3, 1) = -4; size(3) = -12");
        due.quote(2, "12: nothing");
        due.calls("record(3, 4, 1) = 1; record(3, 12, 1) = 1; kind(3, 0) = 12; kind(3, 1) = -4; size(3) = -11");
        due.quote(2, "`kind`: .. BAD");
        due.calls("record(3, 4, 1) = 1");
        due.refused("record(3, -1, 1) = -1; record(3, 13, 1) = -1; record(3, LEAST, 1) = -1; record(3, MOST, 1) = -1");
    }

    private void recordSize() {
        due.quote(2, "`n`: for 0 to 10 the number of cells, at most 20");
        for (int kind = 0; kind <= 10; kind++) {
            due.calls("record(3, " + kind + ", 0) = 1; size(3) = 0; kind(3, 0) = " + kind);
            due.calls("record(3, " + kind + ", 1) = 1; size(3) = 1; record(3, " + kind + ", 20) = 1; size(3) = 20");
        }
        due.quote(2, "BAD, also if n is greater than 20 for kind 0 to 10");
        due.calls("record(3, 4, 2) = 1");
        for (int kind = 0; kind <= 10; kind++) due.refused("record(3, " + kind + ", 21) = -1; record(3, " + kind + ", MOST) = -1");
        due.quote(2, "for 11 the number of the tag");
        for (String n : new String[] {"0", "-1", "21", "MOST", "LEAST"}) due.calls("record(3, 4, 1) = 1; record(3, 11, " + n + ") = 1; kind(3, 0) = 11");
        due.quote(2, "for 12 any number");
        for (String n : new String[] {"0", "-1", "21", "MOST", "LEAST"}) due.calls("record(3, 4, 1) = 1; record(3, 12, " + n + ") = 1; kind(3, 0) = 12");
        due.quote(2, "size (-16) if n is negative for kind 0 to 10");
        due.calls("record(3, 4, 2) = 1");
        for (int kind = 0; kind <= 10; kind++) due.refused("record(3, " + kind + ", -1) = -16; record(3, " + kind + ", LEAST) = -16");
        due.quote(2, "BAD .. size (-16)");
        due.refused("record(8, 4, -1) = -1; record(-1, 4, -1) = -1; record(3, 13, -1) = -1; record(3, -1, -1) = -1");
    }

    private void share() {
        due.quote(3, "Lets a record hold the same array .. as another record .. Returns 1");
        due.calls("record(2, 4, 2) = 1; share(5, 2) = 1; kind(5, 0) = 4; kind(5, 1) = 2; put(5, 1, 4, 9) = 1; put(2, 0, 4, 7) = 1");
        due.cells(2, "4:7 4:9");
        due.cells(5, "4:7 4:9");
        due.calls("count(0) = 2; count(1) = 1");
        due.quote(3, "(or tag,");
        due.calls("record(2, 11, 5) = 1; record(5, 4, 1) = 1; share(5, 2) = 1; kind(5, 0) = 11; kind(5, 1) = -4; kind(2, 0) = 11");
        due.quote(3, "or nothing)");
        due.calls("record(5, 4, 1) = 1; share(5, 2) = 1; kind(5, 0) = 12; size(5) = -11; record(5, 11, 1) = 1; share(5, 2) = 1; kind(5, 0) = 12");
        due.quote(3, "`r`: the record that is changed");
        due.calls("record(2, 4, 2) = 1; record(5, 8, 3) = 1; share(6, 5) = 1; share(5, 2) = 1; size(5) = 2; size(2) = 2; size(6) = 3; kind(6, 1) = 6");
        due.quote(3, "`s`: a record");
        due.calls("record(7, 4, 2) = 1; share(0, 7) = 1; size(0) = 2; share(7, 7) = 1; size(7) = 2; kind(7, 1) = 0; share(3, 3) = 1; kind(3, 0) = 12");
        due.quote(3, "`r` .. BAD");
        due.calls("record(2, 4, 2) = 1");
        due.refused("share(-1, 2) = -1; share(8, 2) = -1; share(LEAST, 2) = -1; share(MOST, 2) = -1");
        due.quote(3, "`s` .. BAD");
        due.calls("record(2, 4, 2) = 1");
        due.refused("share(2, -1) = -1; share(2, 8) = -1; share(2, LEAST) = -1; share(2, MOST) = -1");
    }

    private void kind() {
        due.quote(4, "Returns a property of a record. .. 0 the kind of its array .. Returns that value");
        for (int kind = 0; kind <= 10; kind++) due.calls("record(6, " + kind + ", 0) = 1; kind(6, 0) = " + kind);
        due.quote(4, "(11 if it holds a single tag,");
        due.calls("record(6, 11, 4) = 1; kind(6, 0) = 11");
        due.quote(4, "12 if it is empty)");
        due.calls("kind(6, 0) = 12; record(6, 4, 1) = 1; record(6, 12, 1) = 1; kind(6, 0) = 12");
        due.quote(4, "1 the least record that holds the same array");
        due.calls("record(6, 8, 1) = 1; kind(6, 1) = 6; share(3, 6) = 1; share(7, 6) = 1; kind(7, 1) = 3; kind(6, 1) = 3; kind(3, 1) = 3");
        due.calls("record(0, 8, 1) = 1; kind(0, 1) = 0; kind(7, 1) = 3; record(3, 12, 0) = 1; kind(7, 1) = 6; record(6, 8, 1) = 1; kind(7, 1) = 7");
        due.calls("share(0, 7) = 1; kind(7, 1) = 0");
        due.quote(4, "NONE for what = 1 if it holds no array");
        due.calls("kind(0, 1) = -4; record(0, 11, 0) = 1; kind(0, 1) = -4; share(1, 0) = 1; kind(1, 1) = -4");
        due.quote(4, "`r`: a record .. BAD");
        due.refused("kind(-1, 0) = -1; kind(8, 0) = -1; kind(-1, 1) = -1; kind(8, 1) = -1; kind(LEAST, 1) = -1; kind(MOST, 0) = -1");
        due.quote(4, "`what`: .. BAD");
        due.calls("record(0, 4, 1) = 1");
        due.refused("kind(0, -1) = -1; kind(0, 2) = -1; kind(1, 2) = -1; kind(0, LEAST) = -1; kind(0, MOST) = -1");
    }

    private void size() {
        due.quote(5, "Returns the number of cells of the array of a record. .. Returns the number of cells");
        for (int n = 0; n <= 20; n++) due.calls("record(7, " + n % 11 + ", " + n + ") = 1; size(7) = " + n);
        due.quote(5, "`r`: a record .. BAD");
        due.refused("size(-1) = -1; size(8) = -1; size(LEAST) = -1; size(MOST) = -1");
        due.quote(5, "null");
        due.refused("size(0) = -11; size(7) = -11");
        due.quote(5, "no array");
        due.calls("record(0, 11, 3) = 1");
        due.refused("size(0) = -12");
    }

    private void ask() {
        due.quote(6, "Reads a cell as a kind, if it fits it. .. Returns 1");
        for (int kind = 0; kind < 8; kind++) {
            due.calls("record(0, " + kind + ", 1) = 1");
            for (int asked = 0; asked < 8; asked++) due.calls("ask(0, 0, " + asked + ") = " + (FITS[kind].contains("" + asked) ? 1 : -15));
        }
        due.quote(6, "The amount of the converted number is the last amount then.");
        due.makes(0, 5, "4:16777217");
        due.calls("ask(0, 0, 5) = 1; got() = 16777217; ask(0, 0, 6) = 1; got() = 16777216f; ask(0, 0, 7) = 1; got() = 16777217d");
        due.makes(0, 6, "6:-3");
        due.calls("ask(0, 0, 6) = 1; got() = -0.375f; ask(0, 0, 7) = 1; got() = -0.375d");
        due.makes(0, 2, "2:-1");
        due.calls("ask(0, 0, 4) = 1; got() = 65535; ask(0, 0, 6) = 1; got() = 65535f");
        due.makes(0, 0, "0:1");
        due.calls("ask(0, 0, 0) = 1; got() = 1");
        due.makes(0, 3, "3:-32768");
        due.calls("ask(0, 0, 5) = 1; got() = -32768; ask(0, 0, 7) = 1; got() = -32768d");
        due.quote(6, "`r`: a record .. BAD");
        due.calls("record(0, 4, 1) = 1");
        due.refused("ask(-1, 0, 4) = -1; ask(8, 0, 4) = -1; ask(LEAST, 0, 4) = -1; ask(MOST, 0, 4) = -1");
        due.quote(6, "`kind`: 0 to 7 .. BAD");
        due.makes(0, 4, "4:5");
        due.refused("ask(0, 0, -1) = -1; ask(0, 0, 8) = -1; ask(0, 0, 9) = -1; ask(0, 0, LEAST) = -1; ask(0, 0, MOST) = -1");
        due.makes(1, 9, "4:5");
        due.refused("ask(1, 0, 9) = -1");
    }

    private void askFaults() {
        due.quote(6, "null");
        due.refused("ask(0, 0, 0) = -11; ask(7, 0, 7) = -11");
        due.quote(6, "no array");
        due.calls("record(0, 11, 0) = 1");
        due.refused("ask(0, 0, 0) = -12");
        due.quote(6, "`i`: index of the cell .. index");
        due.makes(0, 4, "4:1 4:2 4:3");
        due.calls("ask(0, 0, 4) = 1; got() = 1; ask(0, 2, 4) = 1; got() = 3");
        due.refused("ask(0, 3, 4) = -13; ask(0, -1, 4) = -13; ask(0, MOST, 4) = -13; ask(0, LEAST, 4) = -13");
        due.calls("record(0, 4, 0) = 1");
        due.refused("ask(0, 0, 4) = -13");
        due.quote(6, "objects");
        for (int kind = 8; kind <= 10; kind++) {
            due.calls("record(0, " + kind + ", 1) = 1");
            for (int asked = 0; asked < 8; asked++) due.refused("ask(0, 0, " + asked + ") = -14");
        }
        due.calls("lay(0, 0, 10, 1) = 1; ask(0, 0, 4) = -14; record(0, 9, 1) = 1; lay(0, 0, 4, 1) = 1; ask(0, 0, 4) = -14");
        due.quote(6, "kind.");
        due.makes(0, 4, "4:5");
        due.refused("ask(0, 0, 0) = -15; ask(0, 0, 1) = -15; ask(0, 0, 2) = -15; ask(0, 0, 3) = -15");
        due.quote(6, "BAD; null; no array; index; objects; kind");
        due.calls("record(1, 11, 0) = 1; record(2, 9, 1) = 1; record(3, 4, 1) = 1");
        due.refused("ask(8, 9, 8) = -1; ask(0, 9, 8) = -1; ask(1, 9, 8) = -1; ask(0, 9, 0) = -11; ask(1, 9, 0) = -12");
        due.refused("ask(2, 1, 0) = -13; ask(3, 1, 0) = -13; ask(2, 0, 0) = -14; ask(3, 0, 0) = -15");
    }

    private void box() {
        due.quote(7, "Returns the sort of a cell. .. Returns the sort, 0 to 10");
        due.calls("record(0, 9, 11) = 1");
        for (int sort = 0; sort <= 10; sort++) due.calls("lay(0, " + sort + ", " + sort + ", 1) = 1; box(0, " + sort + ") = " + sort);
        for (int kind = 0; kind <= 10; kind++) due.calls("record(1, " + kind + ", 1) = 1; box(1, 0) = " + (kind < 8 ? kind : 9));
        due.calls("lay(1, 0, 10, 3) = 1; box(1, 0) = 10; record(1, 8, 1) = 1; lay(1, 0, 8, 3) = 1; box(1, 0) = 8");
        due.quote(7, "Its amount is the last amount then.");
        due.makes(0, 9, "0:-7 1:-7 2:-7 3:-7 4:-7 5:-7 6:-7 7:-7 8:-7 9:-7 10:-7");
        due.cells(0, "0:1 1:-7 2:65529 3:-7 4:-7 5:-7 6:-0.875f 7:-0.875d 8:-7 9:0 10:3");
        due.quote(7, "`r`: a record .. BAD");
        due.calls("record(0, 4, 1) = 1");
        due.refused("box(-1, 0) = -1; box(8, 0) = -1; box(LEAST, 0) = -1; box(MOST, 0) = -1");
        due.quote(7, "null");
        due.refused("box(0, 0) = -11; box(7, 0) = -11");
        due.quote(7, "no array");
        due.calls("record(0, 11, 3) = 1");
        due.refused("box(0, 0) = -12");
        due.quote(7, "`i`: index of the cell .. index");
        due.makes(0, 8, "8:1 8:2 8:3");
        due.calls("box(0, 0) = 8; got() = 1; box(0, 2) = 8; got() = 3");
        due.refused("box(0, 3) = -13; box(0, -1) = -13; box(0, MOST) = -13; box(0, LEAST) = -13");
        due.calls("record(0, 8, 0) = 1");
        due.refused("box(0, 0) = -13");
        due.quote(7, "BAD; null; no array; index");
        due.calls("record(1, 11, 0) = 1; record(2, 4, 1) = 1");
        due.refused("box(8, 9) = -1; box(0, 9) = -11; box(1, 9) = -12; box(2, 1) = -13");
    }

    private void got() {
        due.quote(8, "Returns the last amount: that of the latest call of ask, box or sum .. Returns the last amount");
        due.makes(0, 4, "4:6 4:7");
        due.calls("box(0, 0) = 4; got() = 6; sum(0, 4) = 1; got() = 13; ask(0, 1, 5) = 1; got() = 7; got() = 7; box(0, 0) = 4; got() = 6");
        due.calls("put(0, 0, 4, 9) = 1; got() = 6; like(0, 0, 0, 1) = 2; compare(0, 0) = 0; draw(1, 4, 5, 1) = 1; got() = 6");
        due.calls("keep(0) = 0; ask(0, 0, 4) = 1; got() = 9; back(0) = 2; got() = 9; record(2, 8, 1) = 1; box(2, 0) = 9; got() = 0");
        due.quote(8, "that did not fail.");
        due.makes(0, 4, "4:6 4:7");
        due.calls("record(1, 11, 0) = 1; record(2, 9, 1) = 1; box(0, 1) = 4; got() = 7");
        due.calls("ask(0, 0, 3) = -15; got() = 7; ask(0, 2, 4) = -13; got() = 7; ask(0, 0, 8) = -1; got() = 7; ask(2, 0, 4) = -14; got() = 7");
        due.calls("box(0, 2) = -13; got() = 7; box(1, 0) = -12; got() = 7; box(3, 0) = -11; got() = 7; box(8, 0) = -1; got() = 7");
        due.calls("sum(0, 3) = -15; got() = 7; sum(0, 0) = -1; got() = 7; sum(1, 4) = -12; got() = 7; sum(2, 4) = -14; got() = 7; sum(3, 4) = -11; got() = 7");
        due.quote(8, "0 if there was no such call");
        due.calls("got() = 0; record(0, 4, 1) = 1; put(0, 0, 4, 6) = 1; got() = 0; box(0, 1) = -13; ask(0, 0, 1) = -15; sum(0, 1) = -15; got() = 0");
    }

    private void put() {
        due.quote(9, "Writes the value of an int by a sort from 0 to 7 into a cell of an array of a kind from 0 to 7, .. `v`: the int .. Returns 1");
        due.calls("record(0, 7, 8) = 1");
        for (int sort = 1; sort < 8; sort++) due.calls("put(0, " + sort + ", " + sort + ", 65539) = 1");
        due.cells(0, "7:0 7:3d 7:3d 7:3d 7:65539d 7:65539d 7:8192.375d 7:8192.375d");
        due.calls("record(1, 6, 2) = 1; put(1, 0, 6, 16777217) = 1; put(1, 1, 4, 16777217) = 1");
        due.cells(1, "6:2097152f 6:16777216f");
        due.calls("record(1, 5, 2) = 1; put(1, 0, 4, LEAST) = 1; put(1, 1, 5, MOST) = 1");
        due.cells(1, "5:-2147483648 5:2147483647");
        due.quote(9, "if it fits this kind.");
        for (int kind = 0; kind < 8; kind++) {
            due.calls("record(0, " + kind + ", 1) = 1");
            for (int sort = 0; sort < 8; sort++) due.calls("put(0, 0, " + sort + ", 1) = " + (FITS[sort].contains("" + kind) ? 1 : -15));
        }
        due.quote(9, "`r`: a record .. BAD");
        due.calls("record(0, 4, 1) = 1; record(7, 4, 1) = 1");
        due.refused("put(-1, 0, 4, 1) = -1; put(8, 0, 4, 1) = -1; put(LEAST, 0, 4, 1) = -1; put(MOST, 0, 4, 1) = -1");
        due.quote(9, "`sort`: 0 to 7 .. BAD");
        due.calls("record(0, 7, 1) = 1; record(1, 9, 1) = 1; record(2, 8, 1) = 1");
        due.refused("put(0, 0, -1, 1) = -1; put(0, 0, 8, 1) = -1; put(0, 0, LEAST, 1) = -1; put(0, 0, MOST, 1) = -1; put(1, 0, 9, 1) = -1; put(2, 0, 8, 1) = -1");
    }

    private void putFaults() {
        due.quote(9, "null");
        due.refused("put(0, 0, 4, 1) = -11; put(7, 0, 0, 1) = -11");
        due.quote(9, "no array");
        due.calls("record(0, 11, 0) = 1");
        due.refused("put(0, 0, 4, 1) = -12");
        due.quote(9, "`i`: index of the cell .. index");
        due.calls("record(0, 4, 3) = 1; put(0, 0, 4, 1) = 1; put(0, 2, 4, 3) = 1");
        due.cells(0, "4:1 4:0 4:3");
        due.refused("put(0, 3, 4, 1) = -13; put(0, -1, 4, 1) = -13; put(0, MOST, 4, 1) = -13; put(0, LEAST, 4, 1) = -13");
        due.calls("record(0, 4, 0) = 1");
        due.refused("put(0, 0, 4, 1) = -13");
        due.quote(9, "objects");
        for (int kind = 8; kind <= 10; kind++) {
            due.calls("record(0, " + kind + ", 1) = 1");
            for (int sort = 0; sort < 8; sort++) due.refused("put(0, 0, " + sort + ", 1) = -14");
        }
        due.quote(9, "kind.");
        due.makes(0, 4, "4:5");
        due.refused("put(0, 0, 0, 1) = -15; put(0, 0, 5, 1) = -15; put(0, 0, 6, 1) = -15; put(0, 0, 7, 1) = -15");
        due.quote(9, "BAD; null; no array; index; objects; kind");
        due.calls("record(1, 11, 0) = 1; record(2, 8, 1) = 1; record(3, 4, 1) = 1");
        due.refused("put(8, 9, 8, 1) = -1; put(0, 9, 8, 1) = -1; put(1, 9, 8, 1) = -1; put(0, 9, 0, 1) = -11; put(1, 9, 0, 1) = -12");
        due.refused("put(2, 1, 0, 1) = -13; put(3, 1, 0, 1) = -13; put(2, 0, 0, 1) = -14; put(3, 0, 0, 1) = -15");
    }

    private void lay() {
        due.quote(10, "Writes the value of an int by a sort into a cell, .. `v`: the int .. Returns 1");
        due.calls("record(0, 9, 11) = 1");
        for (int sort = 0; sort <= 10; sort++) due.calls("lay(0, " + sort + ", " + sort + ", -7) = 1");
        due.cells(0, "0:1 1:-7 2:65529 3:-7 4:-7 5:-7 6:-0.875f 7:-0.875d 8:-7 9:0 10:3");
        due.quote(10, "if it fits the kind of the array");
        for (int kind = 0; kind < 8; kind++) {
            due.calls("record(0, " + kind + ", 1) = 1");
            for (int sort = 0; sort <= 10; sort++) due.calls("lay(0, 0, " + sort + ", 1) = " + (sort < 8 && FITS[sort].contains("" + kind) ? 1 : -15));
        }
        due.quote(10, "(kinds 8 to 10, too)");
        for (int kind = 8; kind <= 10; kind++) {
            due.calls("record(0, " + kind + ", 1) = 1");
            for (int sort = 0; sort <= 10; sort++) due.calls("lay(0, 0, " + sort + ", 1) = " + (kind == 9 || sort == kind || sort == 9 ? 1 : -15));
        }
        due.calls("record(0, 8, 2) = 1; lay(0, 0, 8, LEAST) = 1; lay(0, 1, 8, 4) = 1; lay(0, 1, 9, 4) = 1");
        due.cells(0, "8:-2147483648 9:0");
        due.quote(10, "`r`: a record .. BAD");
        due.calls("record(0, 9, 1) = 1; record(7, 9, 1) = 1");
        due.refused("lay(-1, 0, 4, 1) = -1; lay(8, 0, 4, 1) = -1; lay(LEAST, 0, 4, 1) = -1; lay(MOST, 0, 4, 1) = -1");
        due.quote(10, "`sort`: 0 to 10 .. BAD");
        due.calls("record(0, 9, 1) = 1");
        due.refused("lay(0, 0, -1, 1) = -1; lay(0, 0, 11, 1) = -1; lay(0, 0, LEAST, 1) = -1; lay(0, 0, MOST, 1) = -1");
    }

    private void layFaults() {
        due.quote(10, "null");
        due.refused("lay(0, 0, 4, 1) = -11; lay(7, 0, 9, 1) = -11");
        due.quote(10, "no array");
        due.calls("record(0, 11, 0) = 1");
        due.refused("lay(0, 0, 8, 1) = -12");
        due.quote(10, "`i`: index of the cell .. index");
        due.calls("record(0, 10, 3) = 1; lay(0, 0, 10, 1) = 1; lay(0, 2, 10, 3) = 1");
        due.cells(0, "10:1 9:0 10:3");
        due.refused("lay(0, 3, 10, 1) = -13; lay(0, -1, 10, 1) = -13; lay(0, MOST, 9, 1) = -13; lay(0, LEAST, 9, 1) = -13");
        due.calls("record(0, 9, 0) = 1");
        due.refused("lay(0, 0, 9, 1) = -13");
        due.quote(10, "kind.");
        due.makes(0, 8, "8:5");
        due.refused("lay(0, 0, 4, 1) = -15; lay(0, 0, 10, 1) = -15");
        due.makes(0, 10, "10:1");
        due.refused("lay(0, 0, 0, 1) = -15; lay(0, 0, 8, 1) = -15");
        due.makes(0, 5, "5:1");
        due.refused("lay(0, 0, 0, 1) = -15; lay(0, 0, 6, 1) = -15; lay(0, 0, 8, 1) = -15; lay(0, 0, 9, 1) = -15; lay(0, 0, 10, 1) = -15");
        due.quote(10, "BAD; null; no array; index; kind");
        due.calls("record(1, 11, 0) = 1; record(2, 8, 1) = 1");
        due.refused("lay(8, 9, 11, 1) = -1; lay(0, 9, 11, 1) = -1; lay(1, 9, 11, 1) = -1; lay(0, 9, 4, 1) = -11; lay(1, 9, 4, 1) = -12; lay(2, 1, 4, 1) = -13; lay(2, 0, 4, 1) = -15");
    }

    private void fill() {
        due.quote(11, "Writes n cells one after the other as put does, .. `v`: the int .. Returns how many cells were written");
        due.calls("record(0, 5, 4) = 1; fill(0, 1, 2, 3, 65539) = 2; torn() = 0");
        due.cells(0, "5:0 5:3 5:3 5:0");
        due.quote(11, "until one fails. Cells that were written before stay written.");
        due.calls("record(0, 5, 4) = 1; fill(0, 2, 5, 1, 7) = 2; torn() = 3");
        due.cells(0, "5:0 5:0 5:7 5:7");
        due.quote(11, "`i`: index of the first cell .. (torn tells the fault of the next one,");
        due.makes(0, 4, "4:1 4:2");
        due.calls("fill(0, 1, 1, 4, 9) = 1; torn() = 0; fill(0, 2, 1, 4, 9) = 0; torn() = 3; fill(0, -1, 2, 4, 9) = 0; torn() = 3");
        due.calls("fill(0, MOST, 20, 4, 9) = 0; torn() = 3; fill(0, LEAST, 20, 4, 9) = 0; torn() = 3; fill(0, -20, 20, 4, 9) = 0; torn() = 3");
        due.calls("fill(0, 0, 2, 5, 9) = 0; torn() = 5; fill(0, 2, 2, 5, 9) = 0; torn() = 3");
        due.cells(0, "4:1 4:9");
        due.calls("record(1, 9, 2) = 1; fill(1, 0, 2, 4, 9) = 0; torn() = 4; fill(1, 2, 2, 4, 9) = 0; torn() = 3; record(1, 8, 1) = 1; fill(1, 0, 1, 4, 9) = 0; torn() = 4");
        due.quote(11, "also 1 null");
        due.calls("fill(0, 0, 1, 4, 9) = 0; torn() = 1; fill(0, -1, 20, 4, 9) = 0; torn() = 1");
        due.quote(11, "and 2 no array");
        due.calls("record(0, 11, 1) = 1; fill(0, 0, 1, 4, 9) = 0; torn() = 2; fill(0, -1, 20, 4, 9) = 0; torn() = 2");
        due.quote(11, "`n`: 0 to 20");
        due.calls("record(0, 4, 20) = 1; fill(0, 0, 20, 4, 1) = 20; torn() = 0; sum(0, 4) = 1; got() = 20; fill(0, 1, 20, 4, 2) = 19; torn() = 3; sum(0, 4) = 1; got() = 39");
        due.calls("fill(0, 0, 0, 4, 3) = 0; torn() = 0; fill(0, 20, 1, 4, 3) = 0; torn() = 3; fill(0, -1, 0, 0, 3) = 0; torn() = 0; sum(0, 4) = 1; got() = 39");
        due.calls("fill(1, 0, 0, 4, 3) = 0; torn() = 0; record(1, 11, 0) = 1; fill(1, 0, 0, 4, 3) = 0; torn() = 0");
        due.quote(11, "`n` .. BAD");
        due.calls("record(0, 4, 2) = 1; fill(0, 2, 1, 4, 1) = 0");
        due.refused("fill(0, 0, 21, 4, 1) = -1; fill(0, 0, -1, 4, 1) = -1; fill(0, 0, MOST, 4, 1) = -1; fill(0, 0, LEAST, 4, 1) = -1; fill(1, 0, 21, 4, 1) = -1");
        due.quote(11, "`sort`: 0 to 7 .. BAD");
        due.calls("record(0, 9, 2) = 1; fill(0, 2, 1, 4, 1) = 0");
        due.refused("fill(0, 0, 1, 8, 1) = -1; fill(0, 0, 1, -1, 1) = -1; fill(0, 0, 0, 9, 1) = -1; fill(0, 0, 1, MOST, 1) = -1; fill(0, 0, 1, LEAST, 1) = -1");
        due.quote(11, "`r`: a record .. BAD");
        due.calls("record(0, 4, 2) = 1; fill(0, 2, 1, 4, 1) = 0");
        due.refused("fill(8, 0, 1, 4, 1) = -1; fill(-1, 0, 1, 4, 1) = -1; fill(8, 0, 0, 4, 1) = -1; fill(MOST, 0, 1, 4, 1) = -1; fill(LEAST, 0, 1, 4, 1) = -1");
    }

    private void move() {
        due.quote(12, "Copies n cells from one record to another one .. `r`: the record that is written .. `s`: the record that is read .. Returns how many cells were copied");
        due.makes(0, 4, "4:1 4:2 4:3 4:4");
        due.calls("record(1, 6, 3) = 1; move(1, 1, 0, 2, 2) = 2; torn() = 0");
        due.cells(1, "6:0 6:3f 6:4f");
        due.cells(0, "4:1 4:2 4:3 4:4");
        due.quote(12, "or the same, one after the other in ascending order (each as it is by then),");
        due.makes(0, 4, "4:1 4:2 4:3 4:4");
        due.calls("move(0, 1, 0, 0, 3) = 3; torn() = 0");
        due.cells(0, "4:1 4:1 4:1 4:1");
        due.makes(0, 4, "4:1 4:2 4:3 4:4");
        due.calls("move(0, 0, 0, 1, 3) = 3; share(5, 0) = 1; move(5, 2, 0, 0, 2) = 2");
        due.cells(0, "4:2 4:3 4:2 4:3");
        due.quote(12, "until one fails.");
        due.makes(0, 9, "8:5 4:6 8:7");
        due.calls("record(1, 8, 3) = 1; move(1, 0, 0, 0, 3) = 1; torn() = 5");
        due.cells(1, "8:5 9:0 9:0");
        due.calls("move(1, 2, 0, 2, 2) = 1; torn() = 3; move(1, 1, 0, 2, 1) = 1; torn() = 0; move(0, 2, 1, 0, 2) = 1; torn() = 3");
        due.cells(1, "8:5 8:7 8:7");
        due.quote(12, "Each cell is first read (null,");
        due.calls("record(1, 11, 0) = 1; record(2, 4, 1) = 1; move(2, 0, 0, 0, 1) = 0; torn() = 1; move(1, 0, 0, 0, 1) = 0; torn() = 1; move(0, 9, 0, 9, 1) = 0; torn() = 1");
        due.quote(12, "no array, .. of record s)");
        due.calls("record(1, 11, 0) = 1; record(2, 4, 1) = 1; move(2, 0, 1, 0, 1) = 0; torn() = 2; move(0, 0, 1, 0, 1) = 0; torn() = 2; move(2, 9, 1, 9, 1) = 0; torn() = 2");
        due.quote(12, "index of record s) .. `j`: index of the first cell there");
        due.makes(0, 4, "4:1 4:2");
        due.calls("record(1, 4, 2) = 1; move(1, 0, 0, 1, 1) = 1; move(1, 0, 0, 2, 1) = 0; torn() = 3; move(1, 0, 0, -1, 1) = 0; torn() = 3; move(1, 0, 0, MOST, 20) = 0; torn() = 3");
        due.calls("move(1, 0, 0, LEAST, 20) = 0; torn() = 3; move(7, 0, 0, 2, 1) = 0; torn() = 3; move(1, 0, 0, 1, 2) = 1; torn() = 3");
        due.cells(1, "4:2 4:0");
    }

    private void moveFaults() {
        due.quote(12, "and then written as lay does. .. (torn tells the fault of the next one)");
        due.makes(0, 7, "7:1 7:2");
        due.calls("move(7, 0, 0, 0, 1) = 0; torn() = 1; record(7, 11, 0) = 1; move(7, 0, 0, 0, 1) = 0; torn() = 2; record(6, 6, 2) = 1; move(6, 0, 0, 0, 1) = 0; torn() = 5");
        due.calls("record(5, 8, 1) = 1; move(5, 0, 0, 0, 1) = 0; torn() = 5; move(5, 1, 0, 0, 1) = 0; torn() = 3; record(4, 9, 2) = 1; move(4, 0, 0, 0, 2) = 2; torn() = 0");
        due.cells(4, "7:0.125d 7:0.25d");
        due.calls("move(0, 0, 5, 0, 1) = 0; torn() = 5; move(4, 1, 5, 0, 1) = 1; torn() = 0; box(4, 1) = 9; move(0, 0, 4, 0, 2) = 1; torn() = 5");
        due.quote(12, "`i`: index of the first cell there");
        due.makes(0, 4, "4:1 4:2");
        due.calls("record(1, 4, 2) = 1; move(1, 1, 0, 0, 1) = 1; move(1, 2, 0, 0, 1) = 0; torn() = 3; move(1, -1, 0, 0, 2) = 0; torn() = 3; move(1, MOST, 0, 0, 2) = 0; torn() = 3");
        due.calls("move(1, LEAST, 0, 0, 2) = 0; torn() = 3; move(1, 1, 0, 0, 2) = 1; torn() = 3");
        due.cells(1, "4:0 4:1");
        due.quote(12, "`n`: 0 to 20");
        due.calls("record(0, 4, 20) = 1; fill(0, 0, 20, 4, 1) = 20; record(1, 4, 20) = 1; move(1, 0, 0, 0, 20) = 20; torn() = 0; sum(1, 4) = 1; got() = 20");
        due.calls("move(1, 1, 0, 0, 20) = 19; torn() = 3; move(1, 0, 0, 0, 0) = 0; torn() = 0; move(1, 20, 0, 20, 1) = 0; torn() = 3; move(6, -1, 7, -1, 0) = 0; torn() = 0");
        due.quote(12, "`n` .. BAD");
        due.calls("record(0, 4, 2) = 1; move(0, 2, 0, 0, 1) = 0; torn() = 3");
        due.refused("move(0, 0, 0, 0, 21) = -1; move(0, 0, 0, 0, -1) = -1; move(0, 0, 0, 0, MOST) = -1; move(0, 0, 0, 0, LEAST) = -1; move(6, 0, 7, 0, 21) = -1");
        due.quote(12, "`r`: the record .. BAD");
        due.calls("record(0, 4, 2) = 1; move(0, 2, 0, 0, 1) = 0; torn() = 3");
        due.refused("move(8, 0, 0, 0, 1) = -1; move(-1, 0, 0, 0, 1) = -1; move(8, 0, 0, 0, 0) = -1; move(MOST, 0, 7, 0, 1) = -1; move(LEAST, 0, 0, 0, 1) = -1");
        due.quote(12, "`s`: the record .. BAD");
        due.calls("record(0, 4, 2) = 1; move(0, 2, 0, 0, 1) = 0; torn() = 3");
        due.refused("move(0, 0, 8, 0, 1) = -1; move(0, 0, -1, 0, 1) = -1; move(0, 0, 8, 0, 0) = -1; move(7, 0, MOST, 0, 1) = -1; move(0, 0, LEAST, 0, 1) = -1");
    }

    /** Record 0 holds an int, record 1 a single tag, patch 0 changes record 0, and the latest fault is 3. */
    private void tornState() {
        due.makes(0, 4, "4:1");
        due.makes(2, 4, "4:2");
        due.calls("compare(0, 2) = 3; patch(0) = 1; record(1, 11, 0) = 1; fill(0, 0, 2, 4, 1) = 1; torn() = 3");
    }

    private void torn() {
        due.quote(13, "Returns the fault by which the latest call of fill, move or apply ended .. Returns the fault, 0 if there was none");
        tornState();
        due.calls("torn() = 3; move(0, 0, 1, 0, 1) = 0; torn() = 2; apply(0, 2) = -20; torn() = 7; fill(0, 0, 1, 5, 1) = 0; torn() = 5");
        due.calls("fill(0, 0, 1, 4, 1) = 1; torn() = 0; move(0, 0, 0, 1, 1) = 0; torn() = 3; move(0, 0, 0, 0, 1) = 1; torn() = 0; fill(7, 0, 1, 4, 1) = 0; torn() = 1");
        due.calls("apply(0, 0) = 1; torn() = 0; put(0, 1, 4, 1) = -13; lay(0, 0, 8, 1) = -15; sum(0, 1) = -15; torn() = 0; apply(0, 0) = -20; torn() = 7; put(0, 0, 4, 1) = 1; torn() = 7");
        due.quote(13, "calls that returned BAD, .. do not count");
        tornState();
        due.calls("fill(0, 0, 21, 4, 1) = -1; torn() = 3; move(8, 0, 0, 0, 0) = -1; torn() = 3; apply(4, 0) = -1; torn() = 3; apply(0, 8) = -1; torn() = 3");
        due.quote(13, "STATE, .. do not count");
        tornState();
        due.calls("apply(1, 0) = -2; torn() = 3");
        due.quote(13, "-11 .. do not count");
        tornState();
        due.calls("apply(0, 7) = -11; torn() = 3");
        due.quote(13, "or -12 do not count");
        tornState();
        due.calls("apply(0, 1) = -12; torn() = 3");
        due.quote(13, "(or no such call)");
        due.calls("torn() = 0; put(0, 0, 4, 1) = -11; size(8) = -1; fill(0, 0, 21, 4, 1) = -1; move(0, 0, 0, 0, -1) = -1; apply(0, 0) = -2; torn() = 0");
    }

    private void sum() {
        due.quote(14, "Sums all cells of an array, read as a kind one after the other: .. Returns 1");
        for (int kind = 1; kind < 8; kind++) {
            due.calls("record(0, " + kind + ", 1) = 1");
            for (int asked = 1; asked < 8; asked++) due.calls("sum(0, " + asked + ") = " + (FITS[kind].contains("" + asked) ? 1 : -15));
        }
        // No call makes a long that is large enough for twenty of them to wrap around.
        due.quote(14, "for 1 to 5 in long arithmetic that wraps around, .. (for 1 to 5 the sum itself)");
        due.makes(0, 1, "1:100 1:100 1:127");
        due.calls("sum(0, 1) = 1; got() = 327; sum(0, 3) = 1; got() = 327; sum(0, 4) = 1; got() = 327; sum(0, 5) = 1; got() = 327");
        due.makes(0, 2, "2:65535 2:65535");
        due.calls("sum(0, 2) = 1; got() = 131070");
        due.makes(0, 4, "4:MOST 4:MOST 4:MOST");
        due.calls("sum(0, 4) = 1; got() = 6442450941; sum(0, 5) = 1; got() = 6442450941");
        due.makes(0, 4, "4:LEAST 4:LEAST");
        due.calls("sum(0, 4) = 1; got() = -4294967296");
        due.quote(14, "for 6 in float, .. arithmetic,");
        due.makes(0, 4, "4:16777216 4:1 4:1");
        due.calls("sum(0, 6) = 1; got() = 16777216f");
        due.makes(0, 4, "4:1 4:1 4:16777216");
        due.calls("sum(0, 6) = 1; got() = 16777218f");
        due.makes(0, 6, "6:1 6:-5");
        due.calls("sum(0, 6) = 1; got() = -0.5f");
        due.quote(14, "for 7 in double arithmetic,");
        due.makes(0, 4, "4:16777216 4:1 4:1");
        due.calls("sum(0, 7) = 1; got() = 16777218d");
        due.makes(0, 6, "6:134217728 6:1");
        due.calls("sum(0, 7) = 1; got() = 16777216.125d; sum(0, 6) = 1; got() = 16777216f");
        due.quote(14, "beginning with 0.");
        for (int kind = 1; kind < 8; kind++) due.calls("record(0, 8, 1) = 1; lay(0, 0, 8, 5) = 1; box(0, 0) = 8; record(1, 1, 0) = 1; sum(1, " + (kind == 2 ? 3 : kind) + ") = 1; got() = 0");
        due.quote(14, "The amount of the sum is the last amount then");
        due.makes(0, 7, "7:8 7:-16");
        due.calls("sum(0, 7) = 1; got() = -1d; box(0, 0) = 7; got() = 1d; sum(0, 7) = 1; got() = -1d");
    }

    private void sumFaults() {
        due.quote(14, "`r`: a record .. BAD");
        due.makes(0, 4, "4:5");
        due.refused("sum(-1, 4) = -1; sum(8, 4) = -1; sum(MOST, 4) = -1; sum(LEAST, 4) = -1");
        due.quote(14, "`kind`: 1 to 7 .. BAD");
        due.makes(0, 4, "4:5");
        due.calls("record(1, 0, 1) = 1");
        due.refused("sum(0, 0) = -1; sum(1, 0) = -1; sum(0, 8) = -1; sum(0, -1) = -1; sum(0, MOST) = -1; sum(0, LEAST) = -1");
        due.quote(14, "null");
        due.refused("sum(0, 4) = -11; sum(7, 4) = -11");
        due.quote(14, "no array");
        due.calls("record(0, 11, 0) = 1");
        due.refused("sum(0, 4) = -12");
        due.quote(14, "objects .. for the first cell that cannot be read so");
        for (int kind = 8; kind <= 10; kind++) {
            due.calls("record(0, " + kind + ", 2) = 1");
            due.refused("sum(0, 1) = -14; sum(0, 7) = -14");
        }
        due.makes(0, 9, "4:1 4:2");
        due.refused("sum(0, 4) = -14");
        due.quote(14, "or kind for the first cell that cannot be read so");
        due.makes(0, 4, "4:5 4:6");
        due.refused("sum(0, 1) = -15; sum(0, 2) = -15; sum(0, 3) = -15");
        due.makes(0, 0, "0:1");
        for (int kind = 1; kind < 8; kind++) due.refused("sum(0, " + kind + ") = -15");
        due.quote(14, "(never without cells)");
        due.makes(1, 4, "4:5");
        for (int kind = 0; kind <= 10; kind++) {
            due.calls("record(0, " + kind + ", 0) = 1");
            for (int asked = 1; asked < 8; asked++) due.calls("box(1, 0) = 4; sum(0, " + asked + ") = 1; got() = 0");
        }
        due.quote(14, "BAD; null; no array; objects");
        due.calls("record(1, 11, 0) = 1; record(2, 9, 1) = 1");
        due.refused("sum(8, 0) = -1; sum(0, 0) = -1; sum(1, 0) = -1; sum(2, 8) = -1; sum(0, 1) = -11; sum(1, 1) = -12; sum(2, 1) = -14");
    }

    private void all() {
        newObject();
        record();
        recordSize();
        share();
        kind();
        size();
        ask();
        askFaults();
        box();
        got();
        put();
        putFaults();
        lay();
        layFaults();
        fill();
        move();
        moveFaults();
        torn();
        sum();
        sumFaults();
    }

    /** The second argument is the document's file. */
    public static void main(String[] args) throws IOException {
        Due due = new Due("promises 1 to 14", new Document(args[1]));
        new CellsTest(due).all();
        due.endQuoting(1, 14);
    }
}
