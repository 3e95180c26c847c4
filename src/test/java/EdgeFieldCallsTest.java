import java.util.Arrays;

/** The boundary sentences of the promises 6 to 8 (set, cell, copy), and that what is refused changes nothing. */
public final class EdgeFieldCallsTest {
    private static final int LOW = Integer.MIN_VALUE;
    private static final int HIGH = Integer.MAX_VALUE;
    private static final int[][] NO_CELLS = {{-1, 0}, {32, 0}, {0, -1}, {0, 24}, {-1, 23}, {32, 23}, {31, -1}, {31, 24},
        {-1, -1}, {32, 24}, {24, 31}, {LOW, 0}, {HIGH, 0}, {0, LOW}, {0, HIGH}, {-32, 1}, {64, 1}, {1, -24}, {1, 48}};

    public static void main(String[] args) {
        setTakesTheLastCellsAndValues();
        setRefusesWhereThereIsNoCell();
        setRefusesOtherValues();
        cellOfTheLastCells();
        cellWhereThereIsNone();
        copyOfTheSmallestAndTheLargestPiece();
        copyRefusesThePieceBeyondTheField();
        copyRefusesTheCopyBeyondTheField();
        copyTurnedHasWidthForHeight();
        copyTakesNoCellBesideThePiece();
        copyRefusesWidthOrHeightBelowOne();
        copyRefusesOtherTurns();
        copyRefusesWhatWouldWrapAround();
        copyTakesWhatOverlapsAsItWasBefore();
        copyLeavesWhatEmptyCellsFallOn();
        Check.end();
    }

    private static void setTakesTheLastCellsAndValues() {
        int[][] corners = {{0, 0}, {31, 0}, {0, 23}, {31, 23}};
        for (int[] corner : corners) {
            for (int value = -1; value <= 4; value++) {
                boolean taken = value >= 0 && value <= 3;
                WireField x = new WireField();
                x.set(corner[0], corner[1], 2);
                Check.due("set of a corner to " + value, x.set(corner[0], corner[1], value), taken);
                Check.due("the corner then", x.cell(corner[0], corner[1]), taken ? value : 2);
            }
        }
    }

    /** "false (refused) if there is none such" */
    private static void setRefusesWhereThereIsNoCell() {
        for (int[] c : NO_CELLS) {
            Twins.changesNothing("set(" + c[0] + ", " + c[1] + ", 3)", Twins::busy,
                    x -> Boolean.toString(x.set(c[0], c[1], 3)), "false");
        }
    }

    /** "or value is not 0 .. 3" */
    private static void setRefusesOtherValues() {
        int[] wrong = {-1, 4, 5, 7, -4, 256, 259, LOW, LOW + 1, HIGH};
        for (int value : wrong) {
            Twins.changesNothing("set(3, 1, " + value + ")", Twins::busy,
                    x -> Boolean.toString(x.set(3, 1, value)), "false");
        }
    }

    private static void cellOfTheLastCells() {
        WireField x = new WireField();
        Check.paint(x, 0, 0, "HT");
        Check.paint(x, 30, 0, "#H");
        Check.paint(x, 0, 23, "T#");
        Check.paint(x, 30, 23, "HT");
        int[][] due = {{0, 0, 1}, {1, 0, 2}, {30, 0, 3}, {31, 0, 1}, {0, 23, 2}, {1, 23, 3}, {30, 23, 1}, {31, 23, 2}};
        for (int[] d : due) {
            Check.due("cell(" + d[0] + ", " + d[1] + ")", x.cell(d[0], d[1]), d[2]);
        }
    }

    /** "-1 if there is none such" */
    private static void cellWhereThereIsNone() {
        for (int[] c : NO_CELLS) {
            Twins.changesNothing("cell(" + c[0] + ", " + c[1] + ")", Twins::busy,
                    x -> Integer.toString(x.cell(c[0], c[1])), "-1");
        }
        Twins.changesNothing("cell(0, 0)", Twins::busy, x -> Integer.toString(x.cell(0, 0)), "0");
    }

    private static boolean copyOnNew(int... a) {
        return new WireField().copy(a[0], a[1], a[2], a[3], a[4], a[5], a[6]);
    }

    private static void refused(int... a) {
        String call = "copy" + Arrays.toString(a);
        Twins.changesNothing(call, Twins::busy,
                x -> Boolean.toString(x.copy(a[0], a[1], a[2], a[3], a[4], a[5], a[6])), "false");
    }

    private static void copyOfTheSmallestAndTheLargestPiece() {
        WireField x = new WireField();
        x.set(31, 23, 1);
        Check.due("one cell", x.copy(31, 23, 1, 1, 0, 0, 3), true);
        Check.due("its copy", x.cell(0, 0), 1);
        x.set(31, 23, 3);
        Check.due("the whole field turned twice", x.copy(0, 0, 32, 24, 0, 0, 2), true);
        Check.due("left above", x.cell(0, 0), 3);
        Check.due("right below", x.cell(31, 23), 1);
        Check.due("the whole field onto itself", x.copy(0, 0, 32, 24, 0, 0, 0), true);
        Check.due("HEADs and WIREs", x.look(1) * 10 + x.look(3), 11);
    }

    /** "false (refused) if the piece ... is not within the field" */
    private static void copyRefusesThePieceBeyondTheField() {
        Check.due("up to the right edge", copyOnNew(29, 0, 3, 2, 0, 0, 0), true);
        Check.due("up to the lower edge", copyOnNew(0, 21, 2, 3, 0, 0, 0), true);
        Check.due("all columns", copyOnNew(0, 0, 32, 1, 0, 0, 0), true);
        Check.due("all rows", copyOnNew(0, 0, 1, 24, 0, 0, 0), true);
        refused(30, 0, 3, 2, 0, 0, 0);
        refused(0, 22, 2, 3, 0, 0, 0);
        refused(0, 0, 33, 1, 0, 0, 0);
        refused(1, 0, 32, 1, 0, 0, 0);
        refused(0, 0, 1, 25, 0, 0, 0);
        refused(0, 1, 1, 24, 0, 0, 0);
        refused(-1, 0, 3, 2, 0, 0, 0);
        refused(0, -1, 3, 2, 0, 0, 0);
        refused(32, 0, 1, 1, 0, 0, 0);
        refused(0, 24, 1, 1, 0, 0, 0);
        refused(-1, 0, 33, 1, 0, 0, 0);
        refused(0, -1, 1, 25, 0, 0, 0);
    }

    /** "or the copy is not within the field" */
    private static void copyRefusesTheCopyBeyondTheField() {
        for (int turns = 0; turns <= 3; turns++) {
            int width = turns % 2 == 0 ? 4 : 2;
            int height = turns % 2 == 0 ? 2 : 4;
            Check.due("to the right edge, turned " + turns, copyOnNew(1, 1, 4, 2, 32 - width, 0, turns), true);
            Check.due("to the lower edge, turned " + turns, copyOnNew(1, 1, 4, 2, 0, 24 - height, turns), true);
            Check.due("right below, turned " + turns, copyOnNew(1, 1, 4, 2, 32 - width, 24 - height, turns), true);
            Check.due("left above, turned " + turns, copyOnNew(1, 1, 4, 2, 0, 0, turns), true);
            refused(1, 1, 4, 2, 33 - width, 0, turns);
            refused(1, 1, 4, 2, 0, 25 - height, turns);
            refused(1, 1, 4, 2, -1, 0, turns);
            refused(1, 1, 4, 2, 0, -1, turns);
            refused(1, 1, 4, 2, 32, 0, turns);
            refused(1, 1, 4, 2, 0, 24, turns);
        }
    }

    /** "turned to the right": a piece of 24 columns stands in the 24 rows, one of 25 does not. */
    private static void copyTurnedHasWidthForHeight() {
        for (int turns = 1; turns <= 3; turns += 2) {
            Check.due("24 columns turned " + turns, copyOnNew(0, 0, 24, 1, 0, 0, turns), true);
            Check.due("24 columns and rows turned " + turns, copyOnNew(0, 0, 24, 24, 0, 0, turns), true);
            Check.due("24 columns and rows turned " + turns + " to the right edge",
                    copyOnNew(0, 0, 24, 24, 8, 0, turns), true);
            refused(0, 0, 25, 1, 0, 0, turns);
            refused(0, 0, 32, 24, 0, 0, turns);
            refused(0, 0, 24, 24, 9, 0, turns);
            refused(0, 0, 24, 24, 0, 1, turns);
        }
        String[] due = {"H#T", "H/#/T", "T#H", "T/#/H"};
        for (int turns = 0; turns <= 3; turns++) {
            WireField x = new WireField();
            Check.paint(x, 0, 0, "H#T");
            Check.due("a row turned " + turns, x.copy(0, 0, 3, 1, 10, 10, turns), true);
            boolean lies = turns % 2 == 0;
            Check.due("the copy", Check.picture(x, 10, 10, lies ? 3 : 1, lies ? 1 : 3), due[turns]);
        }
    }

    /** "Copies a piece of the field": what lies round it stays where it is, at all four sides. */
    private static void copyTakesNoCellBesideThePiece() {
        for (int turns = 0; turns <= 3; turns++) {
            boolean lies = turns % 2 == 0;
            WireField x = new WireField();
            Check.paint(x, 4, 4, "HHHHH/H###H/H###H/HHHHH");
            Check.due("copy turned " + turns, x.copy(5, 5, 3, 2, 15, 15, turns), true);
            Check.due("the copy and what is round it", Check.picture(x, 14, 14, 5, 5),
                    lies ? "...../.###./.###./...../....." : "...../.##../.##../.##../.....");
            Check.due("HEADs", x.look(1), 14);
            Check.due("WIREs", x.look(3), 12);
        }
    }

    /** "width or height below 1" */
    private static void copyRefusesWidthOrHeightBelowOne() {
        int[] wrong = {0, -1, -2, LOW, LOW + 1};
        for (int size : wrong) {
            for (int turns = 0; turns <= 3; turns++) {
                refused(3, 1, size, 1, 5, 5, turns);
                refused(3, 1, 1, size, 5, 5, turns);
                refused(3, 1, size, size, 5, 5, turns);
            }
        }
    }

    /** "or turns not 0 .. 3" */
    private static void copyRefusesOtherTurns() {
        int[] wrong = {-1, 4, 5, -4, 8, LOW, HIGH};
        for (int turns : wrong) {
            refused(1, 1, 3, 3, 5, 5, turns);
        }
    }

    /** A sum of place and size that goes beyond int would come out small. */
    private static void copyRefusesWhatWouldWrapAround() {
        refused(1, 1, HIGH, 1, 0, 0, 0);
        refused(1, 1, 1, HIGH, 0, 0, 0);
        refused(HIGH, 1, 1, 1, 0, 0, 0);
        refused(1, HIGH, 1, 1, 0, 0, 0);
        refused(HIGH, HIGH, HIGH, HIGH, 0, 0, 0);
        refused(HIGH, 1, HIGH, 1, 0, 0, 0);
        refused(LOW, 1, 1, 1, 0, 0, 0);
        refused(1, LOW, 1, 1, 0, 0, 0);
        refused(LOW, 1, HIGH, 1, 0, 0, 0);
        refused(1, LOW, 1, HIGH, 0, 0, 0);
        refused(1, 1, 3, 3, HIGH, 0, 0);
        refused(1, 1, 3, 3, 0, HIGH, 0);
        refused(1, 1, 3, 3, HIGH, 0, 1);
        refused(1, 1, 3, 3, 0, HIGH, 3);
        refused(1, 1, 3, 3, LOW, 0, 0);
        refused(1, 1, 3, 3, 0, LOW, 0);
    }

    private static void shifts(int toColumn, int toRow, String due) {
        WireField x = new WireField();
        Check.paint(x, 5, 5, "H#T/#TH/T##");
        Check.due("copy by " + (toColumn - 5) + ", " + (toRow - 5), x.copy(5, 5, 3, 3, toColumn, toRow, 0), true);
        Check.due("then", Check.picture(x, 4, 4, 5, 5), due);
    }

    /** "(What overlaps is taken as it was before.)": to each side, and turned onto itself. */
    private static void copyTakesWhatOverlapsAsItWasBefore() {
        shifts(6, 5, "...../.HH#T/.##TH/.TT##/.....");
        shifts(4, 5, "...../H#TT./#THH./T###./.....");
        shifts(5, 6, "...../.H#T./.H#T./.#TH./.T##.");
        shifts(5, 4, ".H#T./.#TH./.T##./.T##./.....");
        shifts(6, 6, "...../.H#T./.#H#T/.T#TH/..T##");
        shifts(4, 4, "H#T../#THT./T##H./.T##./.....");
        shifts(6, 4, "..H#T/.H#TH/.#T##/.T##./.....");
        shifts(4, 6, "...../.H#T./H#TH./#TH#./T##..");
        shifts(5, 5, "...../.H#T./.#TH./.T##./.....");
        String[] due = {"H#T/#TH/T##", "T#H/#T#/#HT", "##T/HT#/T#H", "TH#/#T#/H#T"};
        for (int turns = 0; turns <= 3; turns++) {
            WireField x = new WireField();
            Check.paint(x, 5, 5, "H#T/#TH/T##");
            Check.due("onto itself, turned " + turns, x.copy(5, 5, 3, 3, 5, 5, turns), true);
            Check.due("then", Check.picture(x, 5, 5, 3, 3), due[turns]);
        }
    }

    /** "its cells that are not EMPTY replace what is there" */
    private static void copyLeavesWhatEmptyCellsFallOn() {
        for (int from = 0; from <= 3; from++) {
            for (int old = 0; old <= 3; old++) {
                WireField x = new WireField();
                x.set(0, 0, from);
                x.set(31, 23, old);
                Check.due("copy of " + from + " onto " + old, x.copy(0, 0, 1, 1, 31, 23, 1), true);
                Check.due("then", x.cell(31, 23), from == 0 ? old : from);
                Check.due("the piece stays", x.cell(0, 0), from);
            }
        }
    }
}
