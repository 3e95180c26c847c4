/** Promise 9: source. */
public final class Promise09SourceTest {
    public static void main(String[] args) {
        numbersAndLimit();
        wrongSources();
        onlyTheLowestBits();
        sixtyFourBits();
        onlyWireBecomesHead();
        theirOrder();
        fourAtOnce();
        thePlaceGoesOnAlways();
        addingChangesNothingElse();
        Check.end();
    }

    private static void numbersAndLimit() {
        WireField x = new WireField();
        int[][] cells = {{0, 0}, {31, 0}, {0, 23}, {31, 23}};
        for (int i = 0; i < 4; i++) {
            Check.due("source number " + i, x.source(cells[i][0], cells[i][1], i, i * 21 + 1), i);
            Check.due("look(5)", x.look(5), i + 1);
        }
        Check.due("a fifth source", x.source(5, 5, 1L, 1), -1);
        Check.due("look(5) then", x.look(5), 4);
    }

    private static void wrongSources() {
        int[][] wrong = {{-1, 0, 1}, {32, 0, 1}, {0, -1, 1}, {0, 24, 1}, {0, 0, 0}, {0, 0, 65}, {0, 0, -1},
            {Integer.MIN_VALUE, 0, 1}, {Integer.MAX_VALUE, 0, 1}, {0, Integer.MIN_VALUE, 1},
            {0, Integer.MAX_VALUE, 1}, {0, 0, Integer.MIN_VALUE}, {0, 0, Integer.MAX_VALUE}};
        WireField x = new WireField();
        for (int[] w : wrong) {
            Check.due("source(" + w[0] + ", " + w[1] + ", 1, " + w[2] + ")", x.source(w[0], w[1], 1L, w[2]), -1);
            Check.due("look(5)", x.look(5), 0);
        }
        Check.due("n = 1", x.source(0, 0, 1L, 1), 0);
        Check.due("n = 64", x.source(0, 0, 1L, 64), 1);
    }

    /** A lone wire: HEAD by the source, TAIL behind that generation, WIRE behind the next. */
    private static void follows(long pattern, int n, String due) {
        WireField x = new WireField();
        x.set(7, 7, 3);
        x.source(7, 7, pattern, n);
        StringBuilder got = new StringBuilder();
        for (int i = 0; i < due.length(); i++) {
            x.run(1);
            got.append(".HT#".charAt(x.cell(7, 7)));
        }
        Check.due("pattern " + pattern + " of " + n, got.toString(), due);
    }

    private static void onlyTheLowestBits() {
        follows(1L, 1, "T#T#T#");
        follows(0L, 1, "######");
        follows(1L, 4, "T###T###T###");
        follows(2L, 4, "#T###T###T##");
        follows(4L, 4, "##T###T###T#");
        follows(8L, 4, "###T###T###T");
        follows(16L, 4, "############");
        follows(17L, 4, "T###T###T###");
        follows(-16L, 4, "############");
        follows(-1L, 3, "T#T#T#T#T#T#");
        follows(5L, 3, "T#T##T##T");
        follows(1L, 3, "T##T##T##");
    }

    private static void sixtyFourBits() {
        WireField x = new WireField();
        x.set(7, 7, 3);
        x.source(7, 7, Long.MIN_VALUE | 1L << 33, 64);
        for (int time = 1; time <= 200; time++) {
            x.run(1);
            int place = (time - 1) % 64;
            Check.due("cell at time " + time, x.cell(7, 7), place == 63 || place == 33 ? 2 : 3);
        }
    }

    private static void onlyWireBecomesHead() {
        int[] after = {0, 2, 3, 2};
        for (int old = 0; old <= 3; old++) {
            WireField x = new WireField();
            x.set(4, 4, old);
            x.source(4, 4, 1L, 1);
            Check.due("source makes no generation", x.cell(4, 4), old);
            x.run(1);
            Check.due("a source on " + old, x.cell(4, 4), after[old]);
        }
    }

    private static void theirOrder() {
        WireField x = new WireField();
        Check.paint(x, 0, 0, "#####");
        x.source(0, 0, 1L, 9);
        x.source(4, 0, 1L, 9);
        x.run(1);
        Check.due("two sources at once", Check.picture(x, 0, 0, 5, 1), "TH#HT");
        WireField y = new WireField();
        y.set(9, 9, 3);
        y.source(9, 9, 1L, 2);
        y.source(9, 9, 2L, 2);
        y.source(9, 9, 3L, 2);
        String[] due = {"T", "#", "T", "#"};
        for (int i = 0; i < due.length; i++) {
            y.run(1);
            Check.due("sources on one cell after " + (i + 1), Check.picture(y, 9, 9, 1, 1), due[i]);
        }
    }

    private static void fourAtOnce() {
        WireField x = new WireField();
        for (int i = 0; i < 4; i++) {
            x.set(i * 5, i * 5, 3);
            x.source(i * 5, i * 5, 1L << i, 4);
        }
        for (int time = 1; time <= 12; time++) {
            x.run(1);
            for (int i = 0; i < 4; i++) {
                Check.due("cell of source " + i + " at " + time, x.cell(i * 5, i * 5), (time - 1) % 4 == i ? 2 : 3);
            }
        }
        Check.due("back(7)", x.back(7), true);
        x.run(1);
        for (int i = 0; i < 4; i++) {
            Check.due("cell of source " + i + " taken back to 5 and run", x.cell(i * 5, i * 5), i == 1 ? 2 : 3);
        }
    }

    private static void thePlaceGoesOnAlways() {
        WireField x = new WireField();
        x.source(3, 3, 1L, 5);
        x.run(3);
        x.set(3, 3, 3);
        x.run(2);
        Check.due("the bit is not there yet", x.cell(3, 3), 3);
        x.run(1);
        Check.due("the bit is there", x.cell(3, 3), 2);
        x.set(3, 3, 0);
        x.run(5);
        x.set(3, 3, 3);
        x.run(4);
        Check.due("the bit is not there again", x.cell(3, 3), 3);
        x.run(1);
        Check.due("the bit is there again", x.cell(3, 3), 2);
    }

    private static void addingChangesNothingElse() {
        WireField x = new WireField();
        Check.paint(x, 0, 0, "TH####");
        x.run(3);
        x.source(2, 0, 1L, 1);
        Check.due("the field after source", Check.picture(x, 0, 0, 7, 1), "###TH#.");
        Check.due("look(4) after source", x.look(4), 3);
        Check.due("back(3) after source", x.back(3), true);
        Check.due("the field then", Check.picture(x, 0, 0, 7, 1), "TH####.");
        Check.due("look(5) then", x.look(5), 1);
    }
}
