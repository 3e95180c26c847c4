/** Promise 10: probe. */
public final class Promise10ProbeTest {
    public static void main(String[] args) {
        numbersAndLimit();
        wrongProbes();
        beginsWithNothing();
        eachLooksAtItsCell();
        Check.end();
    }

    private static void numbersAndLimit() {
        WireField x = new WireField();
        int[][] cells = {{0, 0}, {31, 0}, {0, 23}, {31, 23}};
        for (int i = 0; i < 4; i++) {
            Check.due("probe number " + i, x.probe(cells[i][0], cells[i][1]), i);
            Check.due("look(6)", x.look(6), i + 1);
        }
        Check.due("a fifth probe", x.probe(5, 5), -1);
        Check.due("look(6) then", x.look(6), 4);
    }

    private static void wrongProbes() {
        int[][] wrong = {{-1, 0}, {32, 0}, {0, -1}, {0, 24}, {Integer.MIN_VALUE, 0}, {Integer.MAX_VALUE, 0},
            {0, Integer.MIN_VALUE}, {0, Integer.MAX_VALUE}};
        WireField x = new WireField();
        for (int[] w : wrong) {
            Check.due("probe(" + w[0] + ", " + w[1] + ")", x.probe(w[0], w[1]), -1);
            Check.due("look(6)", x.look(6), 0);
        }
        Check.due("the first probe then", x.probe(1, 1), 0);
        Check.due("a second probe of the same cell", x.probe(1, 1), 1);
    }

    private static void beginsWithNothing() {
        WireField x = new WireField();
        Check.paint(x, 0, 0, "TH####");
        x.run(2);
        x.probe(3, 0);
        Check.due("the cell is HEAD", x.cell(3, 0), 1);
        Check.due("seen(0, 0)", Check.seen(x, 0, 0), "0");
        Check.due("seen(0, 1)", Check.seen(x, 0, 1), "-1");
        Check.due("record(0)", x.record(0), 0);
        Check.due("look(4) after probe", x.look(4), 2);
        Check.due("back(2) after probe", x.back(2), true);
        Check.due("look(6) after back", x.look(6), 1);
        x.run(5);
        Check.due("seen(0, 0) then", Check.seen(x, 0, 0), "1");
        Check.due("seen(0, 1) then", Check.seen(x, 0, 1), "2");
    }

    private static void eachLooksAtItsCell() {
        WireField x = new WireField();
        Check.paint(x, 0, 0, "TH####");
        Check.paint(x, 0, 20, "TH####");
        x.probe(2, 0);
        x.probe(5, 20);
        x.probe(0, 10);
        x.probe(5, 20);
        x.run(6);
        String[] count = {"1", "1", "0", "1"};
        String[] latest = {"1", "4", "-1", "4"};
        long[] bits = {32, 4, 0, 4};
        for (int i = 0; i < 4; i++) {
            Check.due("seen(" + i + ", 0)", Check.seen(x, i, 0), count[i]);
            Check.due("seen(" + i + ", 1)", Check.seen(x, i, 1), latest[i]);
            Check.due("record(" + i + ")", x.record(i), bits[i]);
        }
    }
}
