/** Promise 8: copy. */
public final class Promise08CopyTest {
    private static final String PIECE = "#HT/..#";

    public static void main(String[] args) {
        turned();
        emptyCellsReplaceNothing();
        overlapping();
        wholeField();
        withinTheField();
        wrongPieces();
        historyIsForgotten();
        Check.end();
    }

    private static void turned() {
        String[] due = {"#HT/..#", ".#/.H/#T", "#../TH#", "T#/H./#."};
        for (int turns = 0; turns < 4; turns++) {
            WireField x = new WireField();
            Check.paint(x, 4, 5, PIECE);
            Check.due("copy turned " + turns, x.copy(4, 5, 3, 2, 20, 10, turns), true);
            boolean across = turns % 2 == 1;
            Check.due("the copy turned " + turns,
                    Check.picture(x, 20, 10, across ? 2 : 3, across ? 3 : 2), due[turns]);
            Check.due("the piece stays", Check.picture(x, 4, 5, 3, 2), PIECE);
            Check.due("nothing else is there", x.look(1) + x.look(2) + x.look(3), 8);
        }
    }

    private static void emptyCellsReplaceNothing() {
        for (int old = 1; old <= 3; old++) {
            WireField x = new WireField();
            Check.paint(x, 0, 0, PIECE);
            for (int row = 10; row < 12; row++) {
                for (int column = 10; column < 13; column++) {
                    x.set(column, row, old);
                }
            }
            Check.due("copy over " + old, x.copy(0, 0, 3, 2, 10, 10, 0), true);
            char o = ".HT#".charAt(old);
            Check.due("what is there then", Check.picture(x, 10, 10, 3, 2), "#HT/oo#".replace('o', o));
        }
        WireField x = new WireField();
        Check.paint(x, 0, 0, "H");
        Check.due("copy of an empty cell", x.copy(5, 5, 1, 1, 0, 0, 2), true);
        Check.due("what is there then", x.cell(0, 0), 1);
    }

    private static void overlapping() {
        WireField x = new WireField();
        Check.paint(x, 5, 5, "#HT.");
        Check.due("copy one to the right", x.copy(5, 5, 4, 1, 6, 5, 0), true);
        Check.due("then", Check.picture(x, 5, 5, 6, 1), "##HT..");
        x = new WireField();
        Check.paint(x, 5, 5, ".#HT");
        Check.due("copy one to the left", x.copy(5, 5, 4, 1, 4, 5, 0), true);
        Check.due("then", Check.picture(x, 4, 5, 6, 1), ".#HTT.");
        x = new WireField();
        Check.paint(x, 5, 5, "#H/T.");
        Check.due("copy onto itself, turned", x.copy(5, 5, 2, 2, 5, 5, 1), true);
        Check.due("then", Check.picture(x, 5, 5, 2, 2), "T#/TH");
        x = new WireField();
        Check.paint(x, 5, 5, "#HT");
        Check.due("copy onto itself, turned twice", x.copy(5, 5, 3, 1, 5, 5, 2), true);
        Check.due("then", Check.picture(x, 5, 5, 3, 1), "TH#");
    }

    private static void wholeField() {
        WireField x = new WireField();
        Check.paint(x, 0, 0, "#HT");
        x.set(31, 23, 1);
        Check.due("copy of all turned twice", x.copy(0, 0, 32, 24, 0, 0, 2), true);
        Check.due("left above", Check.picture(x, 0, 0, 3, 1), "HHT");
        Check.due("right below", Check.picture(x, 29, 23, 3, 1), "TH#");
        Check.due("all turned once", x.copy(0, 0, 32, 24, 0, 0, 1), false);
        Check.due("all turned three times", x.copy(0, 0, 32, 24, 0, 0, 3), false);
        Check.due("a square turned once", x.copy(8, 0, 24, 24, 8, 0, 1), true);
        Check.due("right below of the square becomes left below", x.cell(8, 23), 3);
    }

    private static void withinTheField() {
        for (int turns = 0; turns < 4; turns++) {
            int width = turns % 2 == 1 ? 2 : 5;
            int height = turns % 2 == 1 ? 5 : 2;
            for (int column = -2; column < 34; column++) {
                for (int row = -2; row < 26; row++) {
                    WireField x = new WireField();
                    Check.due("piece at " + column + ", " + row, x.copy(column, row, 5, 2, 0, 0, turns),
                            column >= 0 && column + 5 <= 32 && row >= 0 && row + 2 <= 24);
                    Check.due("copy turned " + turns + " to " + column + ", " + row,
                            x.copy(0, 0, 5, 2, column, row, turns),
                            column >= 0 && column + width <= 32 && row >= 0 && row + height <= 24);
                }
            }
        }
    }

    private static void wrongPieces() {
        int low = Integer.MIN_VALUE;
        int high = Integer.MAX_VALUE;
        int[][] wrong = {{0, 0, 0, 1, 0, 0, 0}, {0, 0, 1, 0, 0, 0, 0}, {0, 0, -1, 1, 0, 0, 0}, {0, 0, 1, -1, 0, 0, 0},
            {0, 0, 1, 1, 0, 0, -1}, {0, 0, 1, 1, 0, 0, 4}, {0, 0, 33, 1, 0, 0, 0}, {0, 0, 1, 25, 0, 0, 0},
            {31, 0, 2, 1, 0, 0, 0}, {0, 23, 1, 2, 0, 0, 0}, {5, 5, -3, -3, 5, 5, 0}, {5, 5, -3, -3, 5, 5, 2},
            {1, 0, high, 1, 0, 0, 0}, {0, 1, 1, high, 0, 0, 0}, {high, 0, 1, 1, 0, 0, 0}, {0, high, 1, 1, 0, 0, 0},
            {low, 0, 1, 1, 0, 0, 0}, {0, low, 1, 1, 0, 0, 0}, {0, 0, low, 1, 0, 0, 0}, {0, 0, 1, low, 0, 0, 0},
            {0, 0, 1, 1, high, 0, 0}, {0, 0, 1, 1, 0, high, 0}, {0, 0, 1, 1, low, 0, 0}, {0, 0, 1, 1, 0, low, 0},
            {0, 0, 1, 1, 0, 0, low}, {0, 0, 1, 1, 0, 0, high}, {high, high, high, high, high, high, 1},
            {0, 0, 1, 1, 32, 0, 0}, {0, 0, 1, 1, 0, 24, 0}, {0, 0, 1, 1, -1, 0, 0}, {0, 0, 1, 1, 0, -1, 0},
            {0, 0, 32, 1, 0, 0, 1}, {0, 0, 25, 1, 0, 0, 3}};
        for (int[] w : wrong) {
            String call = "copy" + java.util.Arrays.toString(w);
            Twins.changesNothing(call, Twins::busy,
                    x -> Boolean.toString(x.copy(w[0], w[1], w[2], w[3], w[4], w[5], w[6])), "false");
        }
    }

    private static void historyIsForgotten() {
        WireField x = new WireField();
        x.run(6);
        Check.due("copy of an empty piece", x.copy(0, 0, 1, 1, 5, 5, 0), true);
        Check.due("look(4) after copy", x.look(4), 0);
        Check.due("look(0) after copy", x.look(0), 6);
        Check.due("back(1) after copy", x.back(1), false);
        Check.due("period() after copy", x.period(), 0);
    }
}
