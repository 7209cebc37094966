/** Promises 24 to 27: patches. */
public final class PatchesTest {
    private static final Due DUE = new Due("promises 24 to 27");
    private static final int LEAST = Integer.MIN_VALUE, MOST = Integer.MAX_VALUE;

    /** Records 0 and 1, and their comparison with two alike and two near pairs. */
    private static void comparison(String name) {
        DUE.begin(name);
        DUE.makes(0, 4, "4:1 4:20 4:3 4:40");
        DUE.makes(1, 5, "5:1 5:7 5:3 5:50");
        DUE.calls("rate(0, 13) = 0; compare(0, 1) = 2; rate(0, 0) = 13");
    }

    private static void patch() {
        comparison("24 patch");
        DUE.calls("count(4) = 0; patch(0) = 2; count(4) = 1; patch(0) = 2; count(4) = 1; patch(3) = 2; count(4) = 2");
        DUE.calls("patch(4) = -1; patch(-1) = -1; compare(0, 0) = 0; patch(1) = 0; turn(1) = 4; apply(1, 0) = 4");
        DUE.makes(2, 4, "");
        DUE.calls("compare(2, 2) = 0; patch(2) = 0; turn(2) = 0; apply(2, 2) = 0; count(4) = 4");
        DUE.calls("compare(2, 0) = 8; patch(2) = 4; apply(2, 2) = 4");
        DUE.cells(2, "4:1 4:20 4:3 4:40");
        DUE.begin("24 patch, without a comparison");
        DUE.calls("patch(0) = -2; patch(4) = -1; patch(-1) = -1; count(4) = 0");
    }

    private static void patchKeepsCells() {
        DUE.begin("24 patch, near and off pairs");
        DUE.makes(0, 9, "4:1 8:2 9:0 10:4");
        DUE.makes(1, 9, "4:2 8:2 9:0 9:0");
        DUE.calls("rate(0, 1) = 0; compare(0, 1) = 4; patch(0) = 2; act(0, 0, 0) = 1; act(0, 1, 0) = 0; act(0, 2, 0) = 0; act(0, 3, 0) = 1");
        DUE.calls("lay(0, 3, 9, 0) = 1; lay(0, 3, 10, 9) = 1; lay(1, 0, 8, 1) = 1; compare(1, 1) = 0; apply(0, 0) = 4");
        DUE.cells(0, "4:2 8:2 9:0 9:0");
    }

    private static void turn() {
        comparison("25 turn");
        DUE.calls("turn(0) = -2; turn(4) = -1; turn(-1) = -1; patch(0) = 2");
        DUE.calls("turn(0) = 4; act(0, 1, 0) = 1; act(0, 1, 1) = 5; act(0, 1, 2) = 4; turn(0) = 4; act(0, 1, 1) = 4; act(0, 1, 2) = 5");
        DUE.makes(2, 8, "8:1 8:2 8:3");
        DUE.makes(3, 9, "8:1 8:3 4:9");
        DUE.calls("compare(2, 3) = 4; patch(1) = 2; act(1, 1, 0) = 2; act(1, 3, 0) = 3; turn(1) = 4; act(1, 0, 0) = 0; act(1, 1, 0) = 3; act(1, 2, 0) = 0; act(1, 3, 0) = 2");
        DUE.calls("apply(1, 3) = 3; compare(2, 3) = 0; turn(1) = 4; apply(1, 3) = 3");
        DUE.cells(3, "8:1 8:3 4:9");
    }

    private static void act() {
        comparison("26 act");
        DUE.calls("act(0, 0, 0) = -2; act(0, " + MOST + ", 2) = -2; act(0, -1, 0) = -1; act(0, 0, 3) = -1; act(0, 0, -1) = -1; act(4, 0, 0) = -1; act(-1, 0, 0) = -1");
        DUE.makes(2, 9, "8:1 4:5 10:2 6:3");
        DUE.makes(3, 9, "8:1 10:2 7:9 9:0");
        DUE.calls("compare(2, 3) = 7; patch(0) = 3");
        DUE.calls("act(0, 0, 0) = 0; act(0, 0, 1) = 8; act(0, 0, 2) = 8; act(0, 1, 0) = 2; act(0, 1, 1) = 4; act(0, 1, 2) = -4; act(0, 2, 0) = 0");
        DUE.calls("act(0, 3, 0) = 1; act(0, 3, 1) = 6; act(0, 3, 2) = 7; act(0, 4, 0) = 3; act(0, 4, 1) = -4; act(0, 4, 2) = 9; act(0, 5, 0) = -4");
        DUE.calls("act(0, " + MOST + ", 1) = -4; act(0, " + LEAST + ", 1) = -1; act(0, 5, 3) = -1; act(1, 0, 0) = -2");
        DUE.calls("turn(0) = 5; act(0, 1, 1) = -4; act(0, 1, 2) = 4; act(0, 4, 1) = 9; act(0, 4, 2) = -4");
    }

    private static void apply() {
        DUE.begin("27 apply");
        DUE.calls("apply(0, 0) = -2; apply(4, 0) = -1; apply(-1, 0) = -1; apply(0, 8) = -1; apply(0, -1) = -1");
        DUE.makes(0, 4, "4:1 4:2 4:3");
        DUE.makes(1, 4, "4:1 4:3 4:9");
        DUE.calls("compare(0, 1) = 4; patch(0) = 2; step(1, 0) = 1; share(2, 0) = 1; apply(0, 0) = 3; torn() = 0; kind(2, 1) = 2");
        DUE.cells(0, "4:1 4:3 4:9");
        DUE.cells(2, "4:1 4:2 4:3");
        DUE.makes(3, 7, "7:800 4:2 7:-8");
        DUE.calls("apply(0, 3) = 3; torn() = 0");
        DUE.cells(3, "7:" + Double.doubleToLongBits(100.0) + " 7:" + Double.doubleToLongBits(-1.0) + " 7:" + Double.doubleToLongBits(9.0));
        DUE.calls("apply(0, 7) = -11; record(7, 11, 0) = 1; apply(0, 7) = -12; torn() = 0");

        DUE.makes(4, 4, "");
        DUE.calls("apply(0, 4) = -20; torn() = 3");
        DUE.makes(4, 4, "4:1");
        DUE.calls("apply(0, 4) = -21; torn() = 3");
        DUE.makes(4, 4, "4:1 4:5 4:3");
        DUE.calls("rate(0, 99) = 0; apply(0, 4) = -21; torn() = 7; rate(0, 0) = 99");
        DUE.makes(4, 4, "4:1 4:2");
        DUE.calls("apply(0, 4) = -22; torn() = 3");
        DUE.makes(4, 4, "4:1 4:2 4:3 4:3");
        DUE.calls("apply(0, 4) = -24; torn() = 3");
        DUE.cells(4, "4:1 4:2 4:3 4:3");
        DUE.makes(4, 1, "1:1 1:2 1:3");
        DUE.calls("apply(0, 4) = -23; torn() = 5; kind(4, 0) = 1");
        DUE.cells(4, "1:1 1:2 1:3");
    }

    private static void applyFaultsInOrder() {
        DUE.begin("27 apply, other before kind");
        DUE.makes(0, 4, "4:1");
        DUE.makes(1, 7, "7:3");
        DUE.calls("compare(0, 1) = 3; patch(0) = 1");
        DUE.makes(2, 4, "4:2");
        DUE.calls("apply(0, 2) = -20; torn() = 7; apply(0, 0) = -20; torn() = 5");
        DUE.makes(2, 4, "");
        DUE.calls("apply(0, 2) = -20; torn() = 3");
        DUE.makes(2, 9, "1:1");
        DUE.calls("apply(0, 2) = 1; torn() = 0");
        DUE.cells(2, "7:" + Double.doubleToLongBits(0.375));
        DUE.begin("27 apply, nulls");
        DUE.makes(0, 8, "8:1 9:0");
        DUE.makes(1, 9, "9:0 10:1");
        DUE.calls("rate(2, 9) = 2; compare(0, 1) = 6; patch(0) = 2; apply(0, 0) = -21; torn() = 5; turn(0) = 2; apply(0, 1) = 2");
        DUE.cells(1, "8:1 9:0");
        DUE.begin("27 apply, twenty cells");
        DUE.calls("record(0, 4, 20) = 1; record(1, 9, 20) = 1; rate(1, 9) = 3; rate(2, 1) = 2; compare(0, 1) = 40; patch(0) = 40; apply(0, 0) = -40; torn() = 5; turn(0) = 40; apply(0, 1) = 20");
    }

    public static void main(String[] args) {
        patch();
        patchKeepsCells();
        turn();
        act();
        apply();
        applyFaultsInOrder();
        DUE.end();
    }
}
