import java.io.IOException;

/** The document's "Description", up to its examples. Each test quotes the words that it would find broken. */
public final class DescriptionTest {
    private static final int HERE = Document.DESCRIPTION;

    private final Due due;

    private DescriptionTest(Due due) {
        this.due = due;
    }

    private void records() {
        due.quote(HERE, "There are eight records, 0 to 7.");
        for (int r = 0; r < 8; r++) due.calls("record(" + r + ", 4, " + r + ") = 1");
        for (int r = 0; r < 8; r++) due.calls("size(" + r + ") = " + r);
        due.refused("record(8, 4, 1) = -1; record(-1, 4, 1) = -1; size(8) = -1; size(-1) = -1");
        due.quote(HERE, "A record is empty (at first), or holds a single tag,");
        for (int r = 0; r < 8; r++) due.calls("kind(" + r + ", 0) = 12; record(" + r + ", 11, 1) = 1; kind(" + r + ", 0) = 11; record(" + r + ", 12, 1) = 1; kind(" + r + ", 0) = 12");
        due.quote(HERE, "or an array of 0 to 20 cells.");
        for (int n = 0; n <= 20; n++) due.calls("record(0, 4, " + n + ") = 1; size(0) = " + n);
        due.refused("record(0, 4, 21) = -1; record(0, 4, -1) = -16; draw(0, 4, 21, 1) = -1; draw(0, 4, -1, 1) = -1");
        due.quote(HERE, "Several records can hold the same array; then a change by one of them is a change for all.");
        due.makes(0, 4, "4:1 4:2 4:3");
        due.calls("share(4, 0) = 1; share(7, 4) = 1; put(4, 0, 4, 7) = 1; lay(7, 1, 4, 8) = 1; fill(0, 2, 1, 4, 9) = 1");
        for (int r : new int[] {0, 4, 7}) due.cells(r, "4:7 4:8 4:9");
        due.calls("move(7, 0, 4, 2, 1) = 1");
        for (int r : new int[] {0, 4, 7}) due.cells(r, "4:9 4:8 4:9");
        due.quote(HERE, "An array has a kind: 0 boolean, 1 byte, 2 char, 3 short, 4 int, 5 long, 6 float, 7 double, 8 tags, 9 any objects, 10 texts.");
        for (int kind = 0; kind <= 10; kind++) due.calls("record(0, " + kind + ", 3) = 1; kind(0, 0) = " + kind);
        due.quote(HERE, "The cells of a new array are false, 0 or null.");
        for (int kind = 0; kind <= 10; kind++) {
            due.calls("record(0, " + kind + ", 1) = 1");
            due.cells(0, CellsTest.NEW_CELLS[kind]);
        }
    }

    private void sorts() {
        due.quote(HERE, "Each cell has a sort. In arrays of the kinds 0 to 7 it is the kind, and the cell is a number.");
        for (int kind = 0; kind < 8; kind++) {
            due.calls("record(0, " + kind + ", 1) = 1; box(0, 0) = " + kind + "; put(0, 0, " + kind + ", 1) = 1; box(0, 0) = " + kind);
            due.calls("put(0, 0, 1, 1) = " + (kind == 0 || kind == 2 ? -15 : 1) + "; box(0, 0) = " + kind + "; ask(0, 0, " + kind + ") = 1");
            due.refused("lay(0, 0, 8, 1) = -15; lay(0, 0, 9, 1) = -15; lay(0, 0, 10, 1) = -15");
        }
        due.quote(HERE, "A cell of an array of tags is a tag (sort 8) or null (sort 9)");
        objectCells(8);
        due.quote(HERE, "a cell of an array of texts is a text (sort 10) or null");
        objectCells(10);
        due.quote(HERE, "a cell of an array of any objects is a number of a sort 0 to 7, a tag, a text or null.");
        objectCells(9);
        due.quote(HERE, "A tag has a number (any int),");
        due.makes(0, 8, "8:MOST 8:LEAST 8:0 8:-1");
        due.cells(0, "8:2147483647 8:-2147483648 8:0 8:-1");
        due.quote(HERE, "a text a number from 0 to 4.");
        for (int v = -6; v <= 6; v++) due.calls("record(0, 10, 1) = 1; lay(0, 0, 10, " + v + ") = 1; box(0, 0) = 10; got() = " + Math.floorMod(v, 5));
    }

    /** In an array of this kind of objects a cell can have just its sorts. */
    private void objectCells(int kind) {
        due.calls("record(0, " + kind + ", 1) = 1; box(0, 0) = 9");
        for (int sort = 0; sort <= 10; sort++) {
            if (kind == 9 || sort == kind || sort == 9) due.calls("lay(0, 0, " + sort + ", 1) = 1; box(0, 0) = " + sort);
            else due.refused("lay(0, 0, " + sort + ", 1) = -15");
        }
    }

    /** The values of ints by a sort, and what box and got tell of them. */
    private void values(String words, String laid, String told) {
        due.quote(HERE, words);
        due.makes(0, 9, laid);
        due.cells(0, told);
    }

    private void values() {
        values("The value of an int v by a sort is: 0 whether v is odd", "0:0 0:1 0:2 0:-1 0:-2 0:MOST 0:LEAST", "0:0 0:1 0:0 0:1 0:0 0:1 0:0");
        values("1, 2, 3 v cast to byte,", "1:127 1:128 1:255 1:256 1:-128 1:-129 1:MOST 1:LEAST", "1:127 1:-128 1:-1 1:0 1:-128 1:127 1:-1 1:0");
        values("1, 2, 3 v cast to .. char,", "2:65535 2:65536 2:-1 2:32768 2:MOST 2:LEAST", "2:65535 2:0 2:65535 2:32768 2:65535 2:0");
        values("1, 2, 3 v cast to .. short", "3:32767 3:32768 3:65535 3:65536 3:-32768 3:-32769 3:MOST 3:LEAST", "3:32767 3:-32768 3:-1 3:0 3:-32768 3:32767 3:-1 3:0");
        values("4, 5 v", "4:MOST 4:LEAST 5:MOST 5:LEAST 4:-1 5:-1", "4:2147483647 4:-2147483648 5:2147483647 5:-2147483648 4:-1 5:-1");
        values("6 (float) v * 0.125f", "6:0 6:-1 6:16777217 6:16777219 6:MOST 6:LEAST", "6:0 6:-0.125f 6:2097152f 6:2097152.5f 6:268435456f 6:-268435456f");
        values("7 v * 0.125", "7:0 7:-1 7:16777217 7:MOST 7:LEAST", "7:0 7:-0.125d 7:2097152.125d 7:268435455.875d 7:-268435456d");
        values("8 a tag with the number v", "8:0 8:-5 8:MOST 8:LEAST", "8:0 8:-5 8:2147483647 8:-2147483648");
        values("9 null", "9:0 9:7 9:LEAST", "9:0 9:0 9:0");
        values("10 the text with the number Math.floorMod(v, 5).", "10:4 10:5 10:-1 10:-5 10:-6 10:MOST 10:LEAST", "10:4 10:0 10:4 10:0 10:4 10:2 10:2");
        values("The amount of a cell is a long: 1 or 0 for true or false", "0:3 0:4", "0:1 0:0");
        values("the number itself for the sorts 1 to 5", "1:-7 2:-7 3:-7 4:-7 5:-7", "1:-7 2:65529 3:-7 4:-7 5:-7");
        values("Float.floatToIntBits and Double.doubleToLongBits of it for the sorts 6 and 7", "6:8 6:-8 6:3 6:2047 7:8 7:-8 7:3 7:MOST",
            "6:1065353216 6:-1082130432 6:0.375f 6:255.875f 7:4607182418800017408 7:-4616189618054758400 7:0.375d 7:268435455.875d");
        values("the number of a tag or text", "8:-9 10:-9", "8:-9 10:1");
        values("0 for null.", "8:5 9:5", "8:5 9:0");
    }

    /** Whether a cell of this sort fits this kind, by writing and, for two kinds from 0 to 7, by reading. */
    private void fitting(int sort, int kind, boolean fits) {
        due.calls("record(0, " + kind + ", 1) = 1; lay(0, 0, " + sort + ", 1) = " + (fits ? 1 : -15));
        if (sort < 8 && kind < 8) due.calls("record(1, " + sort + ", 1) = 1; ask(1, 0, " + kind + ") = " + (fits ? 1 : -15));
    }

    private void widened(String words, int sort, String kinds) {
        due.quote(HERE, words);
        for (int kind = 0; kind < 8; kind++) fitting(sort, kind, kinds.contains("" + kind));
    }

    private void fits() {
        widened("A number fits a kind from 0 to 7 if its sort is this kind", 0, "0");
        widened("or can be widened to it: byte to short, int, long, float, double", 1, "134567");
        widened("char to int, long, float, double", 2, "24567");
        widened("short to int, long, float, double", 3, "34567");
        widened("int to long, float, double", 4, "4567");
        widened("long to float, double", 5, "567");
        widened("float to double.", 6, "67");
        widened("if its sort is this kind", 7, "7");
        due.quote(HERE, "It is converted then as by Java.");
        due.makes(0, 6, "1:-128 2:65535 3:-32768 4:16777217 4:16777219 4:MOST 5:LEAST");
        due.cells(0, "6:-128f 6:65535f 6:-32768f 6:16777216f 6:16777220f 6:2147483648f 6:-2147483648f");
        due.makes(0, 7, "1:-128 2:65535 4:16777217 4:MOST 5:MOST 6:-3 6:16777217");
        due.cells(0, "7:-128d 7:65535d 7:16777217d 7:2147483647d 7:2147483647d 7:-0.375d 7:2097152d");
        due.makes(0, 5, "1:-1 2:-1 3:-1 4:-1");
        due.cells(0, "5:-1 5:65535 5:-1 5:-1");
        due.makes(0, 3, "1:-128");
        due.cells(0, "3:-128");
        due.quote(HERE, "Every cell fits kind 9.");
        for (int sort = 0; sort <= 10; sort++) fitting(sort, 9, true);
        due.quote(HERE, "A tag or null fits kind 8 .. Nothing else fits.");
        for (int sort = 0; sort <= 10; sort++) fitting(sort, 8, sort == 8 || sort == 9);
        due.quote(HERE, "a text or null fits kind 10. Nothing else fits.");
        for (int sort = 0; sort <= 10; sort++) fitting(sort, 10, sort == 10 || sort == 9);
        due.quote(HERE, "Nothing else fits.");
        for (int sort = 8; sort <= 10; sort++) {
            for (int kind = 0; kind < 8; kind++) fitting(sort, kind, false);
        }
    }

    private void faults() {
        due.quote(HERE, "Faults are: 1 null (the record is empty), .. The methods return -10 - (fault), that is -11");
        due.refused("size(0) = -11; ask(0, 0, 4) = -11; box(0, 0) = -11; put(0, 0, 4, 1) = -11; lay(0, 0, 4, 1) = -11; sum(0, 4) = -11; like(0, 0, 0, 0) = -11");
        due.refused("compare(0, 0) = -11; near(0) = -11; lag(0, 0) = -11; vote(0, 0, 0, 0) = -11; log(0, 0, 4, 1) = -11");
        due.quote(HERE, "2 no array (it holds a single tag),");
        due.calls("record(0, 11, 1) = 1");
        due.refused("size(0) = -12; ask(0, 0, 4) = -12; box(0, 0) = -12; put(0, 0, 4, 1) = -12; lay(0, 0, 8, 1) = -12; sum(0, 4) = -12; like(0, 0, 0, 0) = -12");
        due.refused("compare(0, 0) = -12; near(0) = -12; lag(0, 0) = -12; vote(0, 0, 0, 0) = -12; log(0, 0, 4, 1) = -12");
        due.quote(HERE, "3 index (there is no such cell),");
        due.calls("record(0, 4, 2) = 1");
        for (String i : new String[] {"-1", "2", "20", "MOST", "LEAST"}) {
            due.refused("ask(0, " + i + ", 4) = -13; box(0, " + i + ") = -13; put(0, " + i + ", 4, 1) = -13; lay(0, " + i + ", 4, 1) = -13; like(0, " + i + ", 0, 0) = -13; like(0, 0, 0, " + i + ") = -13");
        }
        due.quote(HERE, "4 objects (an array of the kinds 8 to 10 is read or written as a kind from 0 to 7),");
        for (int kind = 8; kind <= 10; kind++) {
            due.calls("record(0, " + kind + ", 1) = 1");
            due.refused("ask(0, 0, 4) = -14; put(0, 0, 4, 1) = -14; sum(0, 4) = -14; log(1, 0, 4, 1) = -14");
        }
        due.quote(HERE, "5 kind (a cell does not fit a kind),");
        due.makes(0, 4, "4:3");
        due.refused("ask(0, 0, 3) = -15; put(0, 0, 5, 1) = -15; lay(0, 0, 8, 1) = -15; sum(0, 3) = -15; log(1, 0, 3, 1) = -15");
        due.quote(HERE, "6 size (a negative size), .. to -16.");
        due.refused("record(0, 4, -1) = -16; record(0, 8, LEAST) = -16");
        due.quote(HERE, "7 other (see apply).");
        due.makes(0, 4, "4:1");
        due.makes(1, 4, "4:9");
        due.calls("compare(0, 1) = 3; patch(0) = 1; apply(0, 1) = -20; torn() = 7");
        due.quote(HERE, "If several faults apply, the first one in this order counts,");
        due.calls("record(1, 11, 0) = 1; record(2, 8, 1) = 1; record(3, 4, 1) = 1");
        due.refused("ask(0, -1, 0) = -11; ask(1, -1, 0) = -12; ask(2, 1, 0) = -13; ask(3, 1, 0) = -13; ask(2, 0, 0) = -14; put(2, -1, 0, 1) = -13; put(2, 0, 0, 1) = -14; lay(2, 1, 4, 1) = -13");
        due.calls("fill(2, 1, 1, 0, 1) = 0; torn() = 3; fill(2, 0, 1, 0, 1) = 0; torn() = 4; move(2, 1, 3, 0, 1) = 0; torn() = 3");
        due.quote(HERE, "except that other comes before kind.");
        due.makes(0, 4, "4:1");
        due.makes(1, 7, "7:3");
        due.makes(2, 4, "4:2");
        due.calls("compare(0, 1) = 3; patch(0) = 1; apply(0, 2) = -20; torn() = 7; apply(0, 0) = -20; torn() = 5; record(2, 4, 0) = 1; apply(0, 2) = -20; torn() = 3");
    }

    /** Puts one cell into each of two arrays of any objects and compares them both ways. */
    private void likeness(String a, String b, int result) {
        due.makes(0, 9, a);
        due.makes(1, 9, b);
        due.calls("like(0, 0, 1, 0) = " + result + "; like(1, 0, 0, 0) = " + result);
    }

    private void alike() {
        due.quote(HERE, "Two cells are alike if they are numbers that have a join and are equal when converted to it,");
        due.calls("rate(0, 99) = 0");
        likeness("0:1", "0:3", 0);
        likeness("0:1", "0:0", 2);
        likeness("0:1", "4:1", 2);
        likeness("0:0", "1:0", 2);
        likeness("1:65", "2:65", 0);
        likeness("1:-1", "2:65535", 2);
        likeness("3:-1", "2:65535", 2);
        likeness("1:-1", "3:-1", 0);
        likeness("4:1", "7:8", 0);
        likeness("6:3", "7:3", 0);
        likeness("4:16777217", "6:134217728", 0);
        likeness("5:16777217", "6:134217728", 0);
        likeness("5:16777217", "7:134217728", 1);
        due.quote(HERE, "or tags with the same number,");
        due.calls("rate(0, 99) = 0");
        likeness("8:5", "8:5", 0);
        likeness("8:MOST", "8:MOST", 0);
        likeness("8:5", "8:6", 2);
        likeness("8:5", "4:5", 2);
        likeness("8:3", "10:3", 2);
        due.quote(HERE, "or texts with the same number,");
        due.calls("rate(0, 99) = 0");
        likeness("10:3", "10:8", 0);
        likeness("10:3", "10:4", 2);
        likeness("10:3", "4:3", 2);
        due.quote(HERE, "or both null.");
        due.calls("rate(0, 99) = 0");
        likeness("9:0", "9:1", 0);
        likeness("9:0", "8:0", 2);
        likeness("9:0", "10:0", 2);
        likeness("9:0", "4:0", 2);
        likeness("9:0", "0:0", 2);
    }

    /** Halves the number in record 0, by its mean with the 0 in record 1, this often. */
    private void halve(int times) {
        for (int n = 0; n < times; n++) due.calls("compare(0, 1) = 3; join(0, 2) = 1");
    }

    private void nearCells() {
        due.quote(HERE, "They are near if they are numbers with a join other than 0, are not alike,");
        due.calls("rate(0, 1) = 0");
        likeness("0:1", "0:0", 2);
        likeness("0:1", "4:0", 2);
        likeness("4:1", "4:1", 0);
        likeness("4:1", "4:2", 1);
        likeness("8:1", "8:2", 2);
        likeness("10:1", "10:2", 2);
        due.quote(HERE, "and their difference, when both are converted to the join, is at most tolerance");
        likeness("4:1", "4:2", 2);
        likeness("6:8", "6:9", 2);
        due.calls("rate(0, 99) = 0");
        likeness("4:0", "5:-99", 1);
        likeness("4:0", "5:-100", 2);
        likeness("2:99", "3:0", 1);
        likeness("2:100", "3:0", 2);
        likeness("1:-1", "2:98", 1);
        likeness("1:-1", "2:99", 2);
        likeness("6:800", "7:8", 1);
        likeness("6:801", "7:8", 2);
        due.calls("rate(0, 1) = 99");
        likeness("4:16777219", "6:134217744", 2);
        likeness("4:16777219", "7:134217744", 1);
        due.quote(HERE, "(exactly for the joins 1 to 5");
        due.calls("rate(0, 99) = 0");
        likeness("4:LEAST", "4:MOST", 2);
        likeness("4:-2147483600", "4:2147483600", 2);
        likeness("5:LEAST", "4:MOST", 2);
        likeness("1:-128", "1:127", 2);
        likeness("3:-32768", "3:32767", 2);
        likeness("5:MOST", "5:2147483548", 1);
        likeness("5:MOST", "5:2147483547", 2);
        due.makes(0, 5, "5:MOST");
        due.makes(1, 5, "5:LEAST 5:-2147483647");
        due.calls("log(0, 0, 5, " + LoggersTest.seedFor(2) + ") = 1; like(0, 0, 1, 0) = 2; like(1, 0, 0, 0) = 2; like(0, 0, 1, 1) = 2; box(0, 0) = 5; got() = 2147483648");
        due.quote(HERE, "for 6 and 7 the difference of both as doubles).");
        due.makes(0, 6, "6:-1");
        due.makes(1, 6, "6:0");
        due.makes(2, 6, "6:792");
        // A float would round -99 - 1/2^30 to -99; a double does not, and rounds -99 - 1/2^60 to -99.
        halve(27);
        due.calls("rate(0, 99) = 0; like(0, 0, 2, 0) = 2; like(2, 0, 0, 0) = 2; rate(0, 0) = 99");
        halve(30);
        due.calls("rate(0, 99) = 0; like(0, 0, 2, 0) = 1; like(2, 0, 0, 0) = 1");
        due.quote(HERE, "Otherwise they are off.");
        due.calls("rate(0, 99) = 0");
        String[] cells = {"0:1", "4:100", "8:1", "9:0", "10:1"};
        for (int a = 0; a < cells.length; a++) {
            for (int b = 0; b < a; b++) likeness(cells[a], cells[b], 2);
        }
    }

    private void rates() {
        due.quote(HERE, "There are four rates: 0 tolerance (0 to 99, at first 0),");
        due.refused("rate(0, 100) = -1; rate(0, -1) = -1; rate(4, 1) = -1; rate(-1, 1) = -1");
        due.calls("rate(0, 99) = 0; rate(0, 0) = 99; rate(0, 0) = 0");
        due.quote(HERE, "1 off (1 to 9, at first 3),");
        due.refused("rate(1, 10) = -1; rate(1, 0) = -1");
        due.calls("rate(1, 9) = 3; rate(1, 1) = 9; rate(1, 1) = 1");
        due.quote(HERE, "2 alone (1 to 9, at first 2),");
        due.refused("rate(2, 10) = -1; rate(2, 0) = -1");
        due.calls("rate(2, 9) = 2; rate(2, 1) = 9; rate(2, 1) = 1");
        due.quote(HERE, "3 twice (0 to 9, at first 1).");
        due.refused("rate(3, 10) = -1; rate(3, -1) = -1");
        due.calls("rate(3, 9) = 1; rate(3, 0) = 9; rate(3, 0) = 0");
    }

    private void alignment() {
        due.quote(HERE, "An alignment of a left and a right array is a sequence of steps from before their first to after their last cells.");
        due.makes(0, 4, "4:1 4:2 4:3");
        due.makes(1, 4, "4:2 4:3 4:4 4:5");
        due.makes(2, 4, "");
        due.calls("compare(0, 1) = 6; result(1) = 5; result(2) = 2; result(5) = 1; result(6) = 2; compare(2, 2) = 0; result(1) = 0; step(0, 0) = -4");
        due.calls("compare(0, 2) = 6; result(1) = 3; result(5) = 3; compare(2, 1) = 8; result(1) = 4; result(6) = 4");
        due.quote(HERE, "Step 0 (pair) takes the next cell of each; it costs 0 if they are alike,");
        due.makes(0, 4, "4:1 4:2");
        due.makes(1, 7, "7:8 7:16");
        due.calls("compare(0, 1) = 0; step(0, 0) = 0; step(0, 1) = 0; step(0, 2) = 0; step(0, 3) = 0; step(1, 0) = 0; step(1, 1) = 1; step(1, 2) = 1; step(1, 3) = 0");
        due.quote(HERE, "1 if they are near,");
        due.makes(0, 4, "4:1");
        due.makes(1, 4, "4:6");
        due.calls("rate(0, 5) = 0; compare(0, 1) = 1; step(0, 0) = 0; step(0, 3) = 1; rate(1, 1) = 3; compare(0, 1) = 1; rate(0, 4) = 5; rate(1, 4) = 1; compare(0, 1) = 4");
        due.quote(HERE, "and the rate off if they are off.");
        due.makes(0, 4, "4:1");
        due.makes(1, 8, "8:1");
        for (int rate = 1; rate <= 4; rate++) due.calls("rate(1, " + rate + ") = " + (rate == 1 ? 3 : rate - 1) + "; compare(0, 1) = " + rate + "; step(0, 0) = 0; step(0, 3) = " + rate);
        due.quote(HERE, "Step 1 (left alone) and step 2 (right alone) take the next cell of this array .. otherwise it costs the rate alone.");
        due.makes(0, 4, "4:1 4:2");
        due.makes(1, 4, "");
        for (int rate = 1; rate <= 9; rate++) {
            due.calls("rate(2, " + rate + ") = " + (rate == 1 ? 2 : rate - 1) + "; compare(0, 1) = " + 2 * rate + "; step(0, 0) = 1; step(1, 0) = 1; step(1, 1) = 1; step(1, 2) = -4; step(1, 3) = " + rate);
            due.calls("compare(1, 0) = " + 2 * rate + "; step(0, 0) = 2; step(1, 0) = 2; step(1, 1) = -4; step(1, 2) = 1; step(1, 3) = " + rate);
        }
    }

    private void duplicates() {
        due.quote(HERE, "if it is alike to the cell before it in its array, it is a duplicate, and the step costs the rate twice");
        due.makes(0, 9, "4:5 1:5 7:40 4:6");
        due.makes(1, 9, "4:5 4:6");
        due.makes(2, 9, "");
        due.calls("compare(0, 1) = 2; result(7) = 2; step(0, 0) = 0; step(1, 0) = 1; step(1, 3) = 1; step(2, 0) = 1; step(2, 3) = 1; step(3, 0) = 0");
        due.calls("compare(1, 0) = 2; result(7) = 2; step(1, 0) = 2; step(1, 3) = 1; step(2, 0) = 2");
        due.calls("rate(3, 0) = 1; compare(0, 1) = 0; compare(0, 2) = 4; result(7) = 2; rate(3, 9) = 0; compare(0, 2) = 22; result(7) = 2; step(0, 3) = 2; step(1, 3) = 9; step(3, 3) = 2");
        due.makes(0, 9, "9:0 9:0 8:1 8:1 10:2 10:2 0:1 0:1");
        due.calls("rate(3, 1) = 9; compare(0, 2) = 12; result(7) = 4; compare(2, 0) = 12; result(7) = 4");
        due.makes(0, 4, "4:5 4:6 4:5 4:7");
        due.calls("rate(0, 99) = 0; compare(0, 2) = 8; result(7) = 0; compare(2, 0) = 8; result(7) = 0");
    }

    private void best() {
        due.quote(HERE, "The best alignment is the one with the least sum of costs");
        due.makes(0, 4, "4:1");
        due.makes(1, 4, "4:7");
        due.calls("compare(0, 1) = 3; result(1) = 1; rate(1, 5) = 3; compare(0, 1) = 4; result(1) = 2; rate(2, 3) = 2; compare(0, 1) = 5; result(1) = 1");
        due.makes(0, 4, "4:1 4:2 4:3 4:4 4:5");
        due.makes(1, 4, "4:3 4:4 4:5 4:1 4:2");
        due.calls("rate(2, 2) = 3; compare(0, 1) = 8; result(2) = 3; step(0, 0) = 1; step(1, 0) = 1; step(2, 0) = 0; step(5, 0) = 2; step(6, 0) = 2");
        due.quote(HERE, "of several the lexicographically least sequence of steps.");
        due.makes(0, 4, "4:1");
        due.makes(1, 8, "8:7");
        due.calls("rate(1, 4) = 3; compare(0, 1) = 4; result(1) = 1; step(0, 0) = 0; rate(1, 5) = 4; compare(0, 1) = 4; step(0, 0) = 1; step(1, 0) = 2");
        due.makes(0, 4, "4:1 4:2");
        due.calls("rate(1, 3) = 5; compare(0, 1) = 5; step(0, 0) = 0; step(1, 0) = 1; compare(1, 0) = 5; step(0, 0) = 0; step(1, 0) = 2");
        due.makes(0, 4, "4:1 4:1");
        due.makes(1, 4, "4:1");
        due.calls("rate(3, 2) = 1; compare(0, 1) = 2; step(0, 0) = 0; step(1, 0) = 1; compare(1, 0) = 2; step(0, 0) = 0; step(1, 0) = 2");
        due.makes(0, 4, "4:1 4:2");
        due.makes(1, 4, "4:2 4:1");
        due.calls("compare(0, 1) = 4; step(0, 0) = 1; step(1, 0) = 0; step(2, 0) = 2; rate(1, 2) = 3; compare(0, 1) = 4; step(0, 0) = 0; step(1, 0) = 0");
        due.quote(HERE, "The comparison consists of two arrays and their best alignment, with cells .. as they were when it was made.");
        due.makes(0, 4, "4:1 4:2");
        due.makes(1, 4, "4:1 4:9");
        due.calls("compare(0, 1) = 3; put(0, 0, 4, 5) = 1; put(1, 1, 4, 2) = 1; record(1, 12, 0) = 1; result(0) = 3; result(2) = 1; result(4) = 1; patch(0) = 1; join(2, 0) = 2; join(3, 1) = 2");
        due.cells(2, "4:1 4:2");
        due.cells(3, "4:1 4:9");
        due.quote(HERE, "and rates as they were when it was made.");
        due.makes(0, 4, "4:1 4:2 4:2");
        due.makes(1, 4, "4:1 4:9");
        due.calls("compare(0, 1) = 4; rate(0, 99) = 0; rate(1, 9) = 3; rate(2, 9) = 2; rate(3, 9) = 1; result(0) = 4; result(3) = 0; result(4) = 1; step(1, 3) = 3; step(2, 3) = 1; result(7) = 1; result(9) = 2");
        due.quote(HERE, "At first there is none.");
        due.calls("record(0, 4, 1) = 1; near(0) = -4; lag(0, 0) = 100; like(0, 0, 0, 0) = 0");
        due.refused("result(0) = -2; step(0, 0) = -2; join(0, 0) = -2; patch(0) = -2");
    }

    /** The kind of the merged array of two arrays of these kinds, both ways. */
    private void mergedKind(int a, int b, int kind) {
        due.calls("record(0, " + a + ", 1) = 1; record(1, " + b + ", 1) = 1");
        for (String pair : new String[] {"0, 1", "1, 0"}) {
            due.holds("compare(" + pair + ")", due.answerOf("compare(" + pair + ")") >= 0);
            due.calls("result(8) = " + kind + "; join(2, 2) = " + due.answerOf("result(9)") + "; kind(2, 0) = " + kind);
        }
    }

    private void mergedKinds() {
        int[][] joins = {
            {0, 9, 9, 9, 9, 9, 9, 9}, {9, 1, 4, 3, 4, 5, 6, 7}, {9, 4, 2, 4, 4, 5, 6, 7}, {9, 3, 4, 3, 4, 5, 6, 7},
            {9, 4, 4, 4, 4, 5, 6, 7}, {9, 5, 5, 5, 5, 5, 6, 7}, {9, 6, 6, 6, 6, 6, 6, 7}, {9, 7, 7, 7, 7, 7, 7, 7}};
        for (int a = 1; a < 8; a++) {
            due.quote(HERE, "The join of two kinds .. is the least kind from 0 to 7 that both fit .. The merged array of the comparison has as its kind the join of the kinds of both arrays, if both are from 0 to 7 and have one");
            for (int b = 1; b < 8; b++) mergedKind(a, b, joins[a][b]);
        }
        for (int a = 1; a < 8; a++) {
            due.quote(HERE, "The join of two kinds or sorts from 0 to 7 is the least kind from 0 to 7 that both fit .. The mean is a number of the sort of the join");
            for (int b = 1; b < 8; b++) mean(a + ":0", b + ":0", joins[a][b] + ":0");
        }
        due.quote(HERE, "there is none for 0 and another one. .. if both are from 0 to 7 and have one .. otherwise kind 9.");
        mergedKind(0, 0, 0);
        for (int b = 1; b < 8; b++) mergedKind(0, b, 9);
        due.quote(HERE, "kind 8 or 10 if both have this kind");
        mergedKind(8, 8, 8);
        mergedKind(10, 10, 10);
        due.quote(HERE, "otherwise kind 9. For each step");
        mergedKind(8, 10, 9);
        mergedKind(8, 9, 9);
        mergedKind(9, 10, 9);
        mergedKind(9, 9, 9);
        for (int kind = 0; kind < 8; kind++) {
            mergedKind(kind, 8, 9);
            mergedKind(kind, 9, 9);
            mergedKind(kind, 10, 9);
        }
    }

    private void mergedCells() {
        due.quote(HERE, "For each step in order it gets a cell: for a pair, by mode 0 that of the left array, by mode 1 that of the right array,");
        due.makes(0, 9, "4:1 8:2 4:3");
        due.makes(1, 9, "7:8 8:7 4:3");
        due.calls("compare(0, 1) = 3; join(2, 0) = 3; join(3, 1) = 3");
        due.cells(2, "4:1 8:2 4:3");
        due.cells(3, "7:1d 8:7 4:3");
        due.quote(HERE, "by mode 2 their mean if they are numbers with a join, otherwise that of the left array");
        mean("4:4", "4:8", "4:6");
        mean("0:1", "4:9", "0:1");
        mean("4:9", "0:1", "4:9");
        mean("8:3", "8:4", "8:3");
        mean("8:3", "4:8", "8:3");
        mean("4:4", "8:3", "4:4");
        mean("9:3", "10:4", "9:0");
        mean("10:4", "9:4", "10:4");
        due.quote(HERE, "for a cell alone that cell, .. The cells are converted to the kind.");
        due.makes(0, 4, "4:1 4:2");
        due.makes(1, 6, "6:8 6:80 6:20");
        due.calls("rate(1, 9) = 3; compare(0, 1) = 6; result(1) = 4; result(9) = 4");
        for (int mode = 0; mode < 3; mode++) {
            due.calls("join(2, " + mode + ") = 4; kind(2, 0) = 6");
            due.cells(2, "6:1f 6:2f 6:10f 6:2.5f");
        }
        due.makes(0, 4, "4:16777217");
        due.calls("record(1, 6, 0) = 1; compare(0, 1) = 2; join(2, 0) = 1");
        due.cells(2, "6:16777216f");
        due.quote(HERE, "unless it is a duplicate, which is left out.");
        due.makes(0, 4, "4:1 4:1 4:1 4:7");
        due.makes(1, 4, "4:1 4:2 4:2");
        due.makes(2, 4, "");
        for (int mode = 0; mode < 3; mode++) {
            due.calls("compare(0, 2) = 6; result(9) = 2; join(3, " + mode + ") = 2; compare(2, 1) = 5; result(9) = 2; join(4, " + mode + ") = 2");
            due.cells(3, "4:1 4:7");
            due.cells(4, "4:1 4:2");
        }
        due.makes(5, 4, "4:1 4:2 4:5");
        due.calls("compare(1, 5) = 3; result(7) = 0; put(5, 2, 4, 2) = 1; record(6, 4, 2) = 1; put(6, 0, 4, 1) = 1; put(6, 1, 4, 2) = 1; compare(1, 6) = 1; result(7) = 1");
        for (int mode = 0; mode < 3; mode++) {
            due.calls("join(4, " + mode + ") = 2");
            due.cells(4, "4:1 4:2");
        }
        due.calls("rate(3, 2) = 1; compare(2, 1) = 6; result(9) = 2; compare(1, 1) = 0; result(9) = 3; join(4, 0) = 3");
        due.cells(4, "4:1 4:2 4:2");
    }

    /** Two arrays of any objects with one cell each; the rates at first make them a pair. */
    private void mean(String a, String b, String result) {
        due.makes(0, 9, a);
        due.makes(1, 9, b);
        due.holds("compare(0, 1)", due.answerOf("compare(0, 1)") <= 3);
        due.calls("join(2, 2) = 1; kind(2, 0) = 9");
        due.cells(2, result);
    }

    private void means() {
        due.quote(HERE, "for 0 whether both are true");
        mean("0:1", "0:1", "0:1");
        mean("0:1", "0:0", "0:0");
        mean("0:0", "0:1", "0:0");
        mean("0:0", "0:0", "0:0");
        due.quote(HERE, "for 1 to 5 the exact sum divided by 2, rounded down");
        mean("1:-3", "1:0", "1:-2");
        mean("1:127", "1:126", "1:126");
        mean("1:-128", "1:-127", "1:-128");
        mean("1:-1", "2:4", "4:1");
        mean("2:65535", "2:65534", "2:65534");
        mean("3:-32768", "1:-128", "3:-16448");
        mean("4:MOST", "4:MOST", "4:2147483647");
        mean("4:LEAST", "4:MOST", "4:-1");
        mean("4:LEAST", "4:-2147483647", "4:-2147483648");
        mean("5:-7", "4:0", "5:-4");
        mean("5:MOST", "5:2147483646", "5:2147483646");
        due.quote(HERE, "for 6 and 7 the sum times 0.5, computed in float or double arithmetic");
        mean("6:1", "6:2", "6:0.1875f");
        mean("6:8", "4:-1", "6:0");
        mean("6:134217728", "6:8", "6:8388608f");
        mean("4:16777217", "6:0", "6:8388608f");
        mean("4:16777217", "7:0", "7:8388608.5d");
        mean("6:134217728", "7:8", "7:8388608.5d");
        mean("6:3", "7:-8", "7:-0.3125d");
        mean("7:1", "6:0", "7:0.0625d");
    }

    private void leastMeans() {
        due.quote(HERE, "(never -0.0).");
        due.makes(0, 6, "6:-1");
        due.makes(1, 6, "6:0");
        halve(123);
        due.cells(0, "6:-0x1p-126f");
        halve(1);
        due.cells(0, "6:-0x1p-127f");
        halve(22);
        due.cells(0, "6:-0x1p-149f");
        halve(1);
        due.cells(0, "6:0");
        due.makes(0, 6, "6:-8");
        due.makes(1, 6, "6:8");
        due.calls("compare(0, 1) = 3; join(2, 2) = 1");
        due.cells(2, "6:0");
        due.quote(HERE, "computed in float or double arithmetic");
        due.makes(0, 7, "7:-3");
        due.makes(1, 7, "7:0");
        halve(200);
        due.cells(0, "7:-0x3p-203d");
        due.quote(HERE, "Float.floatToIntBits and Double.doubleToLongBits of it");
        due.makes(0, 6, "6:-1");
        due.makes(1, 6, "6:0");
        halve(146);
        due.calls("ask(0, 0, 6) = 1; got() = -0x1p-149f; ask(0, 0, 7) = 1; got() = -0x1p-149d; sum(0, 6) = 1; got() = -0x1p-149f; sum(0, 7) = 1; got() = -0x1p-149d");
    }

    private void patches() {
        due.quote(HERE, "There are four patches, 0 to 3, at first none.");
        for (int p = 0; p < 4; p++) due.refused("turn(" + p + ") = -2; act(" + p + ", 0, 0) = -2; apply(" + p + ", 0) = -2");
        due.refused("turn(4) = -1; turn(-1) = -1; act(4, 0, 0) = -1; act(-1, 0, 0) = -1; apply(4, 0) = -1; apply(-1, 0) = -1");
        due.calls("count(4) = 0; record(0, 4, 1) = 1; compare(0, 0) = 0; patch(0) = 0; patch(1) = 0; patch(2) = 0; patch(3) = 0; patch(4) = -1; patch(-1) = -1; count(4) = 4");
        for (int p = 0; p < 4; p++) due.calls("record(1, 8, " + p + ") = 1; compare(1, 1) = 0; patch(" + p + ") = 0");
        for (int p = 0; p < 4; p++) due.calls("turn(" + p + ") = " + p);
        due.quote(HERE, "A patch is a sequence of acts, one for each step of a comparison: 0 keep (a pair of cells that are alike), 1 put (any other pair),");
        due.makes(0, 4, "4:1 4:2 4:3");
        due.makes(1, 7, "7:8 7:17 7:800");
        due.calls("rate(0, 1) = 0; compare(0, 1) = 4; result(2) = 1; result(3) = 1; result(4) = 1; patch(0) = 2; act(0, 0, 0) = 0; act(0, 1, 0) = 1; act(0, 2, 0) = 1; act(0, 3, 0) = -4");
        due.quote(HERE, "2 out (left alone),");
        due.makes(0, 4, "4:1 4:1");
        due.makes(1, 4, "");
        due.calls("compare(0, 1) = 3; patch(0) = 2; act(0, 0, 0) = 2; act(0, 1, 0) = 2; act(0, 2, 0) = -4");
        due.quote(HERE, "3 in (right alone).");
        due.makes(0, 4, "4:1 4:1");
        due.makes(1, 4, "");
        due.calls("compare(1, 0) = 3; patch(0) = 2; act(0, 0, 0) = 3; act(0, 1, 0) = 3; act(0, 2, 0) = -4");
        due.quote(HERE, "An act has an old cell (that of the left array; not for in) and a new cell (that of the right array; not for out).");
        due.makes(0, 9, "4:1 8:5 10:2 6:3");
        due.makes(1, 9, "7:8 10:2 9:0 3:1");
        due.calls("compare(0, 1) = 7; patch(0) = 3; act(0, 0, 1) = 4; act(0, 0, 2) = 7; act(0, 1, 1) = 8; act(0, 1, 2) = -4; act(0, 3, 1) = 6; act(0, 3, 2) = 9; act(0, 4, 1) = -4; act(0, 4, 2) = 3");
        due.calls("lay(0, 1, 8, 6) = 1; lay(1, 2, 8, 6) = 1; apply(0, 0) = -21; lay(0, 1, 8, 5) = 1; apply(0, 0) = 4");
        due.cells(0, "4:1 10:2 9:0 3:1");
    }

    private void errorCodes() {
        due.quote(HERE, "Error codes. BAD (-1): an argument is out of its range (records, kinds, sorts, patches and images included).");
        due.holds("BAD is -1", LoggerTwins.BAD == -1);
        due.refused("record(8, 4, 1) = -1; record(0, 13, 1) = -1; lay(0, 0, 11, 1) = -1; turn(4) = -1; keep(2) = -1; back(2) = -1; rate(1, 0) = -1; result(10) = -1; count(6) = -1");
        due.quote(HERE, "STATE (-2), .. as the methods say.");
        due.holds("STATE is -2", LoggerTwins.STATE == -2);
        due.refused("result(0) = -2; step(0, 0) = -2; join(0, 0) = -2; patch(0) = -2; turn(0) = -2; act(0, 0, 0) = -2; apply(0, 0) = -2; back(0) = -2");
        due.quote(HERE, "FULL (-3): as the methods say.");
        due.holds("FULL is -3", LoggerTwins.FULL == -3);
        due.calls("record(0, 4, 20) = 1; record(1, 8, 1) = 1; rate(1, 9) = 3; rate(2, 1) = 2");
        for (int i = 0; i < 20; i++) due.calls("put(0, " + i + ", 4, " + i + ") = 1");
        due.calls("compare(0, 1) = 21; join(2, 0) = -3; kind(2, 0) = 12");
        due.quote(HERE, "NONE (-4) is not an error; it means \"there is none\".");
        due.holds("NONE is -4", LoggerTwins.NONE == -4);
        due.makes(0, 4, "4:1");
        due.calls("kind(1, 1) = -4; near(0) = -4; record(1, 4, 0) = 1; lag(0, 1) = -4; compare(0, 1) = 2; step(0, 2) = -4; step(1, 0) = -4; patch(0) = 1; act(0, 0, 2) = -4; act(0, 1, 0) = -4");
        due.quote(HERE, "Each @return names them and the faults in the order in which they are checked; the first that applies is returned,");
        due.calls("record(1, 11, 0) = 1; record(2, 4, 1) = 1");
        due.refused("ask(1, 9, 8) = -1; like(0, 0, 1, 0) = -11; like(1, 0, 0, 0) = -12; compare(2, 0) = -11; apply(0, 0) = -2; vote(0, 2, 1, 0) = -12; join(8, 0) = -1; step(-1, 0) = -1");
        due.quote(HERE, "and NONE only if no error applies.");
        due.calls("record(1, 11, 0) = 1; record(2, 4, 0) = 1");
        due.refused("kind(8, 1) = -1; kind(-1, 1) = -1; step(MOST, 0) = -2; step(MOST, 4) = -1; act(0, MOST, 0) = -2; act(0, MOST, 3) = -1; near(0) = -11; near(1) = -12; near(8) = -1");
        due.refused("lag(2, 0) = -11; lag(2, 1) = -12; lag(2, 8) = -1");
    }

    private void failedCalls() {
        due.quote(HERE, "A failed call changes nothing, except as told.");
        due.makes(0, 4, "4:1 4:2");
        due.makes(1, 9, "8:1 9:0");
        due.calls("share(2, 0) = 1; record(3, 11, 5) = 1; compare(0, 1) = 6; patch(0) = 2; keep(0) = 0; lay(1, 1, 10, 1) = 1; rate(0, 5) = 0; rate(1, 4) = 3; fill(0, 2, 1, 4, 1) = 0; torn() = 3; box(0, 1) = 4");
        due.refused("record(0, 4, 21) = -1; record(0, 4, -1) = -16; share(0, 8) = -1; kind(0, 2) = -1; size(3) = -12; ask(0, 0, 3) = -15; box(1, 2) = -13");
        due.refused("put(0, 0, 7, 1) = -15; lay(0, 0, 8, 1) = -15; fill(0, 0, 21, 4, 7) = -1; move(0, 0, 0, 1, 21) = -1; sum(0, 3) = -15; sum(1, 4) = -14; rate(1, 0) = -1");
        due.refused("like(0, 0, 1, 2) = -13; compare(0, 3) = -12; compare(3, 0) = -12; result(10) = -1; step(-1, 0) = -1; join(0, 3) = -1; near(3) = -12; lag(0, 7) = -11");
        due.refused("vote(0, 0, 1, 3) = -12; patch(4) = -1; turn(1) = -2; act(0, -1, 0) = -1; apply(1, 0) = -2; apply(0, 3) = -12; log(0, 1, 4, 1) = -14; log(0, 0, 3, 1) = -15");
        due.refused("draw(0, 4, 21, 1) = -1; keep(2) = -1; back(1) = -2; back(2) = -1; count(6) = -1");
        due.makes(5, 1, "1:7 1:8");
        due.makes(6, 4, "4:9 4:9");
        due.refused("vote(5, 5, 6, 6) = -20");
        due.calls("apply(0, 6) = -20; torn() = 7");
        due.refused("apply(0, 6) = -20");
    }

    private void all() {
        records();
        sorts();
        values();
        fits();
        faults();
        alike();
        nearCells();
        rates();
        alignment();
        duplicates();
        best();
        mergedKinds();
        mergedCells();
        means();
        leastMeans();
        patches();
        errorCodes();
        failedCalls();
    }

    /** The second argument is the document's file. */
    public static void main(String[] args) throws IOException {
        Due due = new Due("description", new Document(args[1]));
        new DescriptionTest(due).all();
        due.endQuoting(HERE, HERE);
    }
}
