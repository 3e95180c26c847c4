/** Promise 11: run. */
public final class Promise11RunTest {
    public static void main(String[] args) {
        howManyGenerations();
        wrongNumbers();
        theLifeOfACell();
        neighboursOfAWire();
        atTheEdges();
        electronOnALoop();
        allAtOnce();
        sourcesActBeforeAndProbesLookAfter();
        Check.end();
    }

    private static void howManyGenerations() {
        int time = 0;
        WireField x = new WireField();
        for (int n = 1; n <= 60; n++) {
            Check.due("run(" + n + ")", x.run(n), 0);
            time += n;
            Check.due("look(0)", x.look(0), time);
        }
        WireField once = new WireField();
        WireField often = new WireField();
        for (WireField y : new WireField[] {once, often}) {
            Check.draw(y, "9FR5FR9FR4FE", 3, 3, 1);
            y.source(4, 3, 9L, 11);
            y.probe(9, 3);
        }
        int heads = once.run(60);
        for (int i = 0; i < 60; i++) {
            often.run(1);
        }
        Check.due("60 at once and one by one", look(once), look(often));
        Check.due("the HEADs", heads, once.look(1));
    }

    private static String look(WireField x) {
        return Check.picture(x, 0, 0, 16, 16) + Check.numbers(x);
    }

    private static void wrongNumbers() {
        int[] wrong = {0, 61, -1, 100, Integer.MIN_VALUE, Integer.MAX_VALUE};
        for (int n : wrong) {
            Twins.changesNothing("run(" + n + ")", Twins::busy, x -> Integer.toString(x.run(n)), "-1");
        }
    }

    private static void theLifeOfACell() {
        int[] after = {0, 2, 3, 3};
        for (int old = 0; old <= 3; old++) {
            WireField x = new WireField();
            x.set(10, 10, old);
            Check.due("run(1) of one cell " + old, x.run(1), 0);
            Check.due("cell after " + old, x.cell(10, 10), after[old]);
        }
    }

    /** Every set of HEADs round a cell of every content. */
    private static void neighboursOfAWire() {
        int[] after = {0, 2, 3};
        for (int heads = 0; heads < 256; heads++) {
            for (int middle = 0; middle <= 3; middle++) {
                WireField x = new WireField();
                putRound(x, 10, 10, heads);
                x.set(10, 10, middle);
                x.run(1);
                int count = Integer.bitCount(heads);
                int due = middle < 3 ? after[middle] : count == 1 || count == 2 ? 1 : 3;
                Check.due("cell " + middle + " with HEADs " + heads, x.cell(10, 10), due);
            }
        }
    }

    private static void putRound(WireField x, int column, int row, int heads) {
        int bit = 0;
        for (int r = row - 1; r <= row + 1; r++) {
            for (int c = column - 1; c <= column + 1; c++) {
                if (r != row || c != column) {
                    x.set(c, r, heads >> bit & 1);
                    bit++;
                }
            }
        }
    }

    private static void atTheEdges() {
        for (int row = 0; row < 24; row++) {
            for (int column = 0; column < 32; column++) {
                WireField x = new WireField();
                fillWithWire(x);
                x.set(column, row, 1);
                int columns = column == 0 || column == 31 ? 2 : 3;
                int rows = row == 0 || row == 23 ? 2 : 3;
                Check.due("HEADs round " + column + ", " + row, x.run(1), columns * rows - 1);
                Check.due("TAILs", x.look(2), 1);
                Check.due("WIREs", x.look(3), 768 - columns * rows);
            }
        }
    }

    private static void fillWithWire(WireField x) {
        x.set(0, 0, 3);
        Check.draw(x, "31F", 0, 0, 1);
        for (int row = 1; row < 24; row++) {
            x.copy(0, 0, 32, 1, 0, row, 0);
        }
    }

    private static void electronOnALoop() {
        WireField x = new WireField();
        Check.paint(x, 0, 0, ".TH#./#...#/.###.");
        String[] due = {".#TH./#...#/.###.", ".##T./#...H/.###.", ".###./#...T/.##H.", ".###./#...#/.#HT.",
            ".###./#...#/.HT#.", ".###./H...#/.T##.", ".H##./T...#/.###.", ".TH#./#...#/.###."};
        for (int i = 0; i < due.length; i++) {
            Check.due("run(1) on a loop", x.run(1), 1);
            Check.due("after " + (i + 1), Check.picture(x, 0, 0, 5, 3), due[i]);
        }
    }

    private static void allAtOnce() {
        WireField x = new WireField();
        Check.paint(x, 5, 5, "H#####/#...../#...../#.....");
        x.run(1);
        Check.due("one step right and down", Check.picture(x, 5, 5, 6, 4), "TH####/H...../#...../#.....");
        x.run(1);
        Check.due("two steps right and down", Check.picture(x, 5, 5, 6, 4), "#TH###/T...../H...../#.....");
    }

    private static void sourcesActBeforeAndProbesLookAfter() {
        WireField x = new WireField();
        Check.paint(x, 0, 0, "###");
        x.source(0, 0, 1L, 60);
        x.probe(0, 0);
        x.probe(1, 0);
        Check.due("run(1)", x.run(1), 1);
        Check.due("the field", Check.picture(x, 0, 0, 3, 1), "TH#");
        Check.due("the probe on the source saw none", Check.seen(x, 0, 0), "0");
        Check.due("the probe beside it saw one", Check.seen(x, 1, 0), "1");
        Check.due("at time", Check.seen(x, 1, 1), "1");
    }
}
