import java.io.IOException;

/** Promises 24 to 27: patches. Each test quotes the words that it would find broken. */
public final class PatchesTest {
    private final Due due;

    private PatchesTest(Due due) {
        this.due = due;
    }

    /** A comparison of record 2 with record 3: keep, out, keep, put, in. */
    private void fiveSteps() {
        due.makes(2, 9, "8:1 4:5 10:2 6:3");
        due.makes(3, 9, "8:1 10:2 7:9 9:0");
        due.calls("compare(2, 3) = 7; result(1) = 5");
    }

    private void patch() {
        due.quote(24, "Makes a patch of the comparison, .. Returns the number of its acts that are not keep");
        fiveSteps();
        due.calls("patch(0) = 3; act(0, 0, 0) = 0; act(0, 1, 0) = 2; act(0, 2, 0) = 0; act(0, 3, 0) = 1; act(0, 4, 0) = 3; act(0, 5, 0) = -4; count(4) = 1");
        due.calls("compare(2, 2) = 0; patch(1) = 0; turn(1) = 4; record(4, 4, 0) = 1; compare(4, 4) = 0; patch(2) = 0; turn(2) = 0; compare(4, 3) = 8; patch(3) = 4; compare(3, 4) = 8; patch(3) = 4");
        due.quote(24, "in place of an earlier one.");
        fiveSteps();
        due.calls("patch(0) = 3; patch(1) = 3; turn(0) = 5; compare(3, 3) = 0; patch(0) = 0; turn(0) = 4; act(0, 1, 0) = 0; turn(1) = 5; act(1, 1, 0) = 3; count(4) = 2");
        due.quote(24, "`p`: a patch, 0 to 3 .. BAD");
        due.refused("patch(-1) = -1; patch(4) = -1; patch(MOST) = -1; patch(LEAST) = -1");
        fiveSteps();
        due.calls("patch(0) = 3; patch(3) = 3");
        due.refused("patch(-1) = -1; patch(4) = -1; patch(MOST) = -1; patch(LEAST) = -1");
        due.quote(24, "STATE if there is no comparison");
        due.calls("record(0, 4, 1) = 1");
        due.refused("patch(0) = -2; patch(1) = -2; patch(2) = -2; patch(3) = -2");
    }

    private void turn() {
        due.quote(25, "Reverses a patch: in each act old and new cell are exchanged, .. Returns the number of its acts");
        due.makes(0, 4, "4:1 4:20");
        due.makes(1, 7, "7:8 7:80");
        due.calls("compare(0, 1) = 3; patch(0) = 1; turn(0) = 2; act(0, 0, 0) = 0; act(0, 0, 1) = 7; act(0, 0, 2) = 4; act(0, 1, 0) = 1; act(0, 1, 1) = 7; act(0, 1, 2) = 4");
        due.calls("apply(0, 1) = 2");
        due.cells(1, "7:1d 7:20d");
        due.calls("turn(0) = 2; act(0, 0, 1) = 4; act(0, 0, 2) = 7; act(0, 1, 1) = 4; act(0, 1, 2) = 7; apply(0, 1) = 2");
        due.cells(1, "7:1d 7:10d");
        due.quote(25, "out becomes in,");
        due.makes(0, 4, "4:1");
        due.makes(1, 4, "");
        due.calls("compare(0, 1) = 2; patch(0) = 1; act(0, 0, 0) = 2; turn(0) = 1; act(0, 0, 0) = 3; act(0, 0, 1) = -4; act(0, 0, 2) = 4; apply(0, 1) = 1");
        due.cells(1, "4:1");
        due.quote(25, "and in becomes out.");
        due.makes(0, 4, "4:1");
        due.makes(1, 4, "");
        due.calls("compare(1, 0) = 2; patch(0) = 1; act(0, 0, 0) = 3; turn(0) = 1; act(0, 0, 0) = 2; act(0, 0, 1) = 4; act(0, 0, 2) = -4; apply(0, 0) = 0; size(0) = 0");
        due.quote(25, "The order of the acts stays.");
        fiveSteps();
        due.calls("patch(0) = 3; turn(0) = 5; act(0, 0, 0) = 0; act(0, 1, 0) = 3; act(0, 2, 0) = 0; act(0, 3, 0) = 1; act(0, 4, 0) = 2; act(0, 5, 0) = -4; apply(0, 3) = 4");
        due.cells(3, "8:1 4:5 10:2 6:0.375f");
        due.quote(25, "`p`: a patch .. BAD");
        due.refused("turn(-1) = -1; turn(4) = -1; turn(MOST) = -1; turn(LEAST) = -1");
        due.quote(25, "STATE if there is no such patch");
        due.refused("turn(0) = -2; turn(3) = -2");
        fiveSteps();
        due.calls("patch(1) = 3");
        due.refused("turn(0) = -2; turn(2) = -2; turn(3) = -2");
    }

    private void act() {
        due.quote(26, "Returns a property of an act. .. `what`: 0 the act (0 to 3), 1 the sort of its old cell, 2 the sort of its new cell .. Returns that value");
        fiveSteps();
        due.calls("patch(3) = 3; act(3, 0, 0) = 0; act(3, 0, 1) = 8; act(3, 0, 2) = 8; act(3, 1, 0) = 2; act(3, 1, 1) = 4; act(3, 2, 0) = 0; act(3, 2, 1) = 10; act(3, 2, 2) = 10");
        due.calls("act(3, 3, 0) = 1; act(3, 3, 1) = 6; act(3, 3, 2) = 7; act(3, 4, 0) = 3; act(3, 4, 2) = 9");
        due.quote(26, "NONE if it has no such cell,");
        fiveSteps();
        due.calls("patch(0) = 3");
        due.refused("act(0, 1, 2) = -4; act(0, 4, 1) = -4");
        due.calls("turn(0) = 5; act(0, 1, 1) = -4; act(0, 1, 2) = 4; act(0, 4, 1) = 9; act(0, 4, 2) = -4");
        due.quote(26, "or there is no such act");
        fiveSteps();
        due.calls("patch(0) = 3");
        for (int what = 0; what < 3; what++) due.refused("act(0, 5, " + what + ") = -4; act(0, MOST, " + what + ") = -4");
        due.calls("record(4, 4, 0) = 1; compare(4, 4) = 0; patch(0) = 0; act(0, 0, 0) = -4; act(0, 0, 1) = -4; act(0, 0, 2) = -4");
        due.quote(26, "`p`: a patch .. BAD if p .. is out of its range");
        due.refused("act(-1, 0, 0) = -1; act(4, 0, 0) = -1; act(MOST, 0, 0) = -1; act(LEAST, 0, 0) = -1");
        due.quote(26, "BAD .. or what is out of its range");
        due.refused("act(0, 0, -1) = -1; act(0, 0, 3) = -1; act(0, MOST, MOST) = -1; act(0, 0, LEAST) = -1");
        fiveSteps();
        due.calls("patch(0) = 3");
        due.refused("act(0, 0, -1) = -1; act(0, 0, 3) = -1; act(0, 5, 3) = -1; act(0, MOST, MOST) = -1; act(0, 0, LEAST) = -1");
        due.quote(26, "`k`: index of the act, 0 or more .. BAD .. or k is negative");
        due.refused("act(0, -1, 0) = -1; act(0, LEAST, 2) = -1");
        fiveSteps();
        due.calls("patch(0) = 3");
        due.refused("act(0, -1, 0) = -1; act(0, LEAST, 2) = -1");
        due.quote(26, "STATE if there is no such patch");
        fiveSteps();
        due.calls("patch(1) = 3");
        for (int what = 0; what < 3; what++) due.refused("act(0, 0, " + what + ") = -2; act(2, MOST, " + what + ") = -2; act(3, 0, " + what + ") = -2");
    }

    /** Patch 0 makes 1, 3, 9 of 1, 2, 3: keep, out, keep, in. */
    private void fourActs() {
        due.makes(0, 4, "4:1 4:2 4:3");
        due.makes(1, 4, "4:1 4:3 4:9");
        due.calls("compare(0, 1) = 4; patch(0) = 2; step(1, 0) = 1; step(3, 0) = 2; result(1) = 4");
    }

    /** Patch 0 makes 7 of 1: a put. */
    private void onePut() {
        due.makes(0, 4, "4:1");
        due.makes(1, 4, "4:7");
        due.calls("compare(0, 1) = 3; patch(0) = 1; act(0, 0, 0) = 1");
    }

    private void apply() {
        due.quote(27, "Applies a patch to the array of a record, act by act. .. Returns the number of cells of the new array");
        fourActs();
        due.calls("apply(0, 0) = 3");
        due.cells(0, "4:1 4:3 4:9");
        due.makes(2, 4, "");
        due.calls("compare(2, 2) = 0; patch(1) = 0; apply(1, 2) = 0; size(2) = 0; compare(0, 2) = 6; patch(1) = 3; apply(1, 0) = 0; size(0) = 0");
        due.quote(27, "Keep, .. take the next cell of the array (fault index if there is none)");
        fourActs();
        due.calls("record(2, 4, 0) = 1; apply(0, 2) = -20; torn() = 3; turn(0) = 4; apply(0, 2) = -20; torn() = 3");
        due.makes(2, 4, "4:1 4:2");
        due.calls("turn(0) = 4; apply(0, 2) = -22; torn() = 3");
        due.quote(27, "put .. take the next cell of the array (fault index if there is none)");
        onePut();
        due.calls("record(2, 4, 0) = 1; apply(0, 2) = -20; torn() = 3");
        due.quote(27, "and out take the next cell of the array (fault index if there is none)");
        fourActs();
        due.makes(2, 4, "4:1");
        due.calls("apply(0, 2) = -21; torn() = 3");
        due.quote(27, "for put .. it must be alike to the old cell (fault other).");
        onePut();
        due.makes(2, 4, "4:2");
        due.calls("rate(0, 99) = 0; apply(0, 2) = -20; torn() = 7; apply(0, 0) = 1; torn() = 0");
        due.makes(2, 7, "7:8");
        due.calls("apply(0, 2) = 1; torn() = 0");
        due.cells(2, "7:7d");
        due.quote(27, "and out it must be alike to the old cell (fault other).");
        fourActs();
        due.makes(2, 4, "4:1 4:5 4:3");
        due.calls("rate(0, 99) = 0; apply(0, 2) = -21; torn() = 7");
        due.makes(2, 4, "4:100 4:2 4:-1");
        due.calls("apply(0, 2) = 3; torn() = 0");
        due.cells(2, "4:100 4:-1 4:9");
    }

    private void applyAppends() {
        due.quote(27, "Keep appends that cell, put and in append the new cell to a new array of the kind of the array");
        fourActs();
        due.makes(2, 7, "7:800 4:2 7:-8");
        due.calls("apply(0, 2) = 3; kind(2, 0) = 7");
        due.cells(2, "7:100d 7:-1d 7:9d");
        due.makes(2, 9, "8:100 7:16 9:0");
        due.calls("apply(0, 2) = 3; kind(2, 0) = 9");
        due.cells(2, "8:100 9:0 4:9");
        onePut();
        due.makes(2, 9, "7:8");
        due.calls("apply(0, 2) = 1");
        due.cells(2, "4:7");
        due.calls("share(3, 0) = 1; apply(0, 0) = 1; kind(3, 1) = 3; kind(0, 1) = 0");
        due.cells(3, "4:1");
        due.quote(27, "it must fit this kind (fault kind).");
        fourActs();
        due.makes(2, 1, "1:1 1:2 1:3");
        due.calls("apply(0, 2) = -23; torn() = 5");
        onePut();
        due.makes(2, 3, "3:1");
        due.calls("apply(0, 2) = -20; torn() = 5");
        due.makes(2, 5, "5:1");
        due.calls("apply(0, 2) = 1; torn() = 0");
        due.makes(4, 9, "8:1 9:0");
        due.makes(5, 9, "10:1 9:0");
        due.makes(6, 8, "8:1 8:2");
        due.calls("compare(4, 5) = 3; patch(1) = 1; apply(1, 6) = -20; torn() = 5; turn(1) = 2; apply(1, 5) = 2; torn() = 0");
        due.cells(5, "8:1 9:0");
        due.quote(27, "After all acts no cell may be left (fault index).");
        fourActs();
        due.makes(2, 4, "4:1 4:2 4:3 4:3");
        due.calls("apply(0, 2) = -24; torn() = 3");
        due.calls("record(3, 4, 0) = 1; compare(3, 3) = 0; patch(1) = 0; apply(1, 2) = -20; torn() = 3; apply(1, 3) = 0; torn() = 0");
        due.quote(27, "The record holds the new array then.");
        fourActs();
        due.calls("share(2, 0) = 1; apply(0, 0) = 3; kind(2, 1) = 2; kind(0, 1) = 0; put(0, 0, 4, 6) = 1");
        due.cells(2, "4:1 4:2 4:3");
        due.cells(0, "4:6 4:3 4:9");
        due.quote(27, "(torn returns 0 then)");
        fourActs();
        due.calls("fill(0, 3, 1, 4, 1) = 0; torn() = 3; apply(0, 0) = 3; torn() = 0");
    }

    private void applyFaults() {
        due.quote(27, "`p`: a patch .. BAD");
        fourActs();
        due.refused("apply(-1, 0) = -1; apply(4, 0) = -1; apply(MOST, 0) = -1; apply(LEAST, 0) = -1");
        due.quote(27, "`r`: a record .. BAD");
        fourActs();
        due.refused("apply(0, -1) = -1; apply(0, 8) = -1; apply(0, MOST) = -1; apply(0, LEAST) = -1");
        due.quote(27, "STATE if there is no such patch");
        fourActs();
        due.refused("apply(1, 0) = -2; apply(2, 0) = -2; apply(3, 0) = -2");
        due.quote(27, "null");
        fourActs();
        due.calls("fill(0, 3, 1, 4, 1) = 0");
        due.refused("apply(0, 7) = -11");
        due.quote(27, "no array");
        fourActs();
        due.calls("record(7, 11, 0) = 1; fill(0, 3, 1, 4, 1) = 0");
        due.refused("apply(0, 7) = -12");
        due.quote(27, "BAD; STATE if there is no such patch; null; no array; -20 - k");
        fourActs();
        due.calls("record(7, 11, 0) = 1");
        due.refused("apply(4, 6) = -1; apply(1, 8) = -1; apply(1, 6) = -2; apply(1, 7) = -2; apply(0, 6) = -11; apply(0, 7) = -12");
        due.quote(27, "-20 - k if act k fails,");
        due.calls("record(0, 4, 20) = 1; record(1, 8, 20) = 1; rate(1, 9) = 3; rate(2, 1) = 2; compare(0, 1) = 40; patch(0) = 40; turn(0) = 40");
        due.calls("record(2, 8, 20) = 1; apply(0, 2) = -20; torn() = 5; record(3, 9, 19) = 1; apply(0, 3) = -59; torn() = 3; record(3, 9, 20) = 1; lay(3, 19, 8, 1) = 1; apply(0, 3) = -59; torn() = 7");
        due.calls("lay(3, 19, 9, 1) = 1; apply(0, 3) = 20; torn() = 0");
        due.quote(27, "where k is the number of acts if cells are left");
        due.calls("record(0, 4, 20) = 1; record(1, 8, 19) = 1; rate(1, 9) = 3; rate(2, 1) = 2; compare(1, 0) = 39; patch(0) = 39; record(2, 9, 20) = 1; apply(0, 2) = -59; torn() = 3");
        due.calls("compare(0, 0) = 0; patch(0) = 0; record(2, 8, 19) = 1; apply(0, 2) = -39; torn() = 3; record(1, 4, 0) = 1; compare(1, 1) = 0; patch(0) = 0; apply(0, 2) = -20; torn() = 3");
        due.quote(27, "(torn returns the fault; the record holds what it held)");
        fourActs();
        due.makes(2, 1, "1:1 1:2 1:3");
        due.calls("share(4, 2) = 1; apply(0, 2) = -23; torn() = 5; kind(4, 1) = 2; kind(2, 0) = 1");
        due.cells(2, "1:1 1:2 1:3");
        due.makes(3, 4, "4:1 4:2 4:3 4:3");
        due.calls("apply(0, 3) = -24; torn() = 3");
        due.cells(3, "4:1 4:2 4:3 4:3");
        due.calls("put(3, 1, 4, 8) = 1; apply(0, 3) = -21; torn() = 7");
        due.cells(3, "4:1 4:8 4:3 4:3");
    }

    private void all() {
        patch();
        turn();
        act();
        apply();
        applyAppends();
        applyFaults();
    }

    /** The second argument is the document's file. */
    public static void main(String[] args) throws IOException {
        Due due = new Due("promises 24 to 27", new Document(args[1]));
        new PatchesTest(due).all();
        due.endQuoting(24, 27);
    }
}
