/** The boundary sentences of the term THE FIELD. */
public final class EdgeFieldTest {
    public static void main(String[] args) {
        twentyFourRowsOfThirtyTwoColumns();
        leftAboveIsTheFirst();
        beyondTheFieldThereAreNoNeighbours();
        rowsAreNotJoinedAtTheirEnds();
        oneOrTwoHeads();
        aFullFieldOfEachContent();
        Check.end();
    }

    /** "THE FIELD has 24 rows of 32 columns" */
    private static void twentyFourRowsOfThirtyTwoColumns() {
        int[][] last = {{0, 0}, {31, 0}, {0, 23}, {31, 23}};
        for (int[] cell : last) {
            WireField x = new WireField();
            Check.due("set of the corner " + cell[0] + ", " + cell[1], x.set(cell[0], cell[1], 2), true);
            Check.due("the corner", x.cell(cell[0], cell[1]), 2);
            Check.due("TAILs", x.look(2), 1);
        }
        int[][] first = {{-1, 0}, {32, 0}, {0, -1}, {0, 24}, {-1, -1}, {32, 24}, {-1, 23}, {32, 23}, {31, -1}, {31, 24}};
        for (int[] cell : first) {
            WireField x = new WireField();
            Check.due("set of " + cell[0] + ", " + cell[1], x.set(cell[0], cell[1], 2), false);
            Check.due("cell " + cell[0] + ", " + cell[1], x.cell(cell[0], cell[1]), -1);
            Check.due("TAILs", x.look(2), 0);
        }
    }

    /** "(0, 0) is left above": a step left or up leads out of it, a step right or down does not. */
    private static void leftAboveIsTheFirst() {
        String[] due = {Check.UNSUPPORTED, "1", "1", Check.UNSUPPORTED};
        for (int direction = 0; direction < 4; direction++) {
            WireField x = new WireField();
            Check.due("F from (0, 0) in direction " + direction, Check.draw(x, "F", 0, 0, direction), due[direction]);
        }
    }

    /** "(beyond the field there are none)": a wrap-around would bring a HEAD beside the cells of the other side. */
    private static void beyondTheFieldThereAreNoNeighbours() {
        for (int row = 0; row < 24; row++) {
            besideHeads(31, row, 0, row);
            besideHeads(0, row, 31, row);
        }
        for (int column = 0; column < 32; column++) {
            besideHeads(column, 23, column, 0);
            besideHeads(column, 0, column, 23);
        }
    }

    /** A HEAD on one side, WIREs round the cell on the other side: none of them is its neighbour. */
    private static void besideHeads(int headColumn, int headRow, int column, int row) {
        WireField x = new WireField();
        x.set(headColumn, headRow, 1);
        int wires = 0;
        for (int r = row - 1; r <= row + 1; r++) {
            for (int c = column - 1; c <= column + 1; c++) {
                wires += x.set(c, r, 3) ? 1 : 0;
            }
        }
        String at = "a HEAD at " + headColumn + ", " + headRow + " and WIREs round " + column + ", " + row;
        Check.due(at, x.run(1), 0);
        Check.due("WIREs with " + at, x.look(3), wires);
        Check.due("TAILs with " + at, x.look(2), 1);
    }

    /** The end of a row and the beginning of the next are no neighbours either. */
    private static void rowsAreNotJoinedAtTheirEnds() {
        for (int row = 0; row < 23; row++) {
            WireField x = new WireField();
            x.set(31, row, 1);
            x.set(0, row + 1, 3);
            Check.due("a HEAD at the end of row " + row, x.run(1), 0);
            WireField y = new WireField();
            y.set(31, row, 3);
            y.set(0, row + 1, 1);
            Check.due("a HEAD at the beginning of row " + (row + 1), y.run(1), 0);
        }
    }

    /** "a WIRE becomes HEAD if one or two of its eight neighbours ... are HEADs": not with 0, not with 3 .. 8. */
    private static void oneOrTwoHeads() {
        int[][] round = {{9, 9}, {10, 9}, {11, 9}, {9, 10}, {11, 10}, {9, 11}, {10, 11}, {11, 11}};
        for (int first = 0; first < 8; first++) {
            for (int heads = 0; heads <= 8; heads++) {
                WireField x = new WireField();
                x.set(10, 10, 3);
                for (int i = 0; i < heads; i++) {
                    int[] cell = round[(first + i) % 8];
                    x.set(cell[0], cell[1], 1);
                }
                Check.due("run(1) with " + heads + " HEADs", x.run(1), heads == 1 || heads == 2 ? 1 : 0);
                Check.due("the WIRE with " + heads + " HEADs", x.cell(10, 10), heads == 1 || heads == 2 ? 1 : 3);
            }
        }
    }

    /** An empty field and one full of HEADs, TAILs or WIREs; copies fill it with fewer calls than set. */
    private static void aFullFieldOfEachContent() {
        int[] then = {0, 2, 3, 3};
        for (int value = 0; value <= 3; value++) {
            WireField x = new WireField();
            x.set(0, 0, value);
            for (int width = 1; width < 32; width *= 2) {
                x.copy(0, 0, width, 1, width, 0, 0);
            }
            for (int row = 1; row < 24; row++) {
                x.copy(0, 0, 32, 1, 0, row, 0);
            }
            for (int what = 1; what <= 3; what++) {
                Check.due("look(" + what + ") of a field of " + value, x.look(what), value == what ? 768 : 0);
            }
            Check.due("run(1) of a field of " + value, x.run(1), 0);
            for (int what = 1; what <= 3; what++) {
                Check.due("look(" + what + ") then", x.look(what), then[value] == what ? 768 : 0);
            }
        }
    }
}
