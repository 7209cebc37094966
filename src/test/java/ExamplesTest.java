/** The four examples of the document's "Description". */
public final class ExamplesTest {
    public static void main(String[] args) {
        Due due = new Due("examples");

        due.begin("example 1: Widening on reading and writing, faults in their order, and a float sum");
        due.calls("record(0, 4, 3) = 1; put(0, 0, 1, 200) = 1; ask(0, 0, 5) = 1; got() = -56; ask(0, 0, 3) = -15; "
            + "put(0, 3, 7, 1) = -13; lay(0, 1, 8, 1) = -15; sum(0, 6) = 1; got() = -1033895936; size(1) = "
            + "-11; record(1, 11, 5) = 1; size(1) = -12; record(2, 0, -1) = -16; box(0, 0) = 4; kind(1, 0) = "
            + "11; share(1, 0) = 1");

        due.begin("example 2: Numbers of two kinds that are alike, near or off; an alignment with a duplicate, and its merged array");
        due.calls("record(0, 3, 3) = 1; record(1, 6, 2) = 1; fill(0, 0, 3, 1, 4) = 3; fill(1, 0, 3, 2, 4) = 2; "
            + "torn() = 3; like(0, 0, 1, 0) = 0; put(1, 1, 6, 36) = 1; like(0, 0, 1, 1) = 2; rate(0, 1) = 0; "
            + "like(0, 0, 1, 1) = 1; compare(0, 1) = 2; result(1) = 3; result(7) = 1; result(8) = 6; step(0, "
            + "0) = 0; join(2, 2) = 2");

        due.begin("example 3: A patch between two random arrays, applied, reversed, and applied again");
        due.calls("draw(0, 9, 6, 3) = 1; draw(1, 9, 6, 4) = 1; compare(0, 1) = 18; patch(0) = 6; apply(0, 0) = 6; "
            + "compare(0, 1) = 0; turn(0) = 6; apply(0, 0) = 6; act(0, 0, 0) = 1; act(0, 0, 1) = 2; act(0, 99, "
            + "0) = -4; apply(1, 0) = -2; apply(0, 5) = -11; torn() = 0; count(3) = 0; near(0) = 1");

        due.begin("example 4: A logger that duplicates a cell, a shift, votes, images, and cells that do not fit");
        due.calls("draw(0, 5, 5, 7) = 1; log(1, 0, 6, 2) = 6; size(1) = 6; lag(0, 1) = 101; log(2, 0, 4, 2) = -15; "
            + "vote(3, 0, 0, 0) = 0; keep(0) = 0; share(4, 3) = 1; back(0) = 3; kind(4, 0) = 12; back(1) = -2; "
            + "move(0, 1, 0, 0, 4) = 4; torn() = 0; lay(0, 0, 9, 0) = -15; record(0, 8, 1) = 1; lay(0, 0, 9, "
            + "0) = 1");

        due.end();
    }
}
