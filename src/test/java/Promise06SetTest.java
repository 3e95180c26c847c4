/** Promise 6: set. */
public final class Promise06SetTest {
    public static void main(String[] args) {
        everyCellTakesEveryValue();
        wrongCellsAndValues();
        historyIsForgotten();
        Check.end();
    }

    private static void everyCellTakesEveryValue() {
        for (int row = 0; row < 24; row++) {
            for (int value = 0; value <= 3; value++) {
                WireField x = new WireField();
                for (int column = 0; column < 32; column++) {
                    String call = "set(" + column + ", " + row + ", " + value + ")";
                    Check.due(call, x.set(column, row, value), true);
                    Check.due("cell after " + call, x.cell(column, row), value);
                }
                for (int what = 1; what <= 3; what++) {
                    Check.due("look(" + what + ") with a row of " + value, x.look(what), what == value ? 32 : 0);
                }
            }
        }
        for (int from = 0; from <= 3; from++) {
            for (int to = 0; to <= 3; to++) {
                WireField y = new WireField();
                y.set(31, 23, from);
                y.set(31, 23, to);
                Check.due("cell set to " + from + " and " + to, y.cell(31, 23), to);
                for (int what = 1; what <= 3; what++) {
                    Check.due("look(" + what + ") then", y.look(what), what == to ? 1 : 0);
                }
            }
        }
    }

    private static void wrongCellsAndValues() {
        int[][] wrong = {{-1, 0, 1}, {32, 0, 1}, {0, -1, 1}, {0, 24, 1}, {0, 0, -1}, {0, 0, 4},
            {Integer.MIN_VALUE, 0, 1}, {Integer.MAX_VALUE, 0, 1}, {0, Integer.MIN_VALUE, 1},
            {0, Integer.MAX_VALUE, 1}, {0, 0, Integer.MIN_VALUE}, {0, 0, Integer.MAX_VALUE}, {32, 24, 4}};
        for (int[] w : wrong) {
            String call = "set(" + w[0] + ", " + w[1] + ", " + w[2] + ")";
            Twins.changesNothing(call, Twins::busy, x -> Boolean.toString(x.set(w[0], w[1], w[2])), "false");
        }
    }

    private static void historyIsForgotten() {
        for (int value = 0; value <= 3; value++) {
            WireField x = new WireField();
            x.run(7);
            Check.due("look(4) before set", x.look(4), 7);
            Check.due("set", x.set(3, 3, value), true);
            Check.due("look(4) after set of " + value, x.look(4), 0);
            Check.due("look(0) after set of " + value, x.look(0), 7);
            Check.due("back(1) after set of " + value, x.back(1), false);
            Check.due("period() after set of " + value, x.period(), 0);
        }
    }
}
