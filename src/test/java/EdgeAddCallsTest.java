/** The boundary sentences of the promises 9 and 10 (source, probe), and that what is refused changes nothing. */
public final class EdgeAddCallsTest {
    private static final int LOW = Integer.MIN_VALUE;
    private static final int HIGH = Integer.MAX_VALUE;
    private static final int[][] CORNERS = {{0, 0}, {31, 0}, {0, 23}, {31, 23}};
    private static final int[][] NO_CELLS = {{-1, 0}, {32, 0}, {0, -1}, {0, 24}, {31, 24}, {32, 23}, {24, 31}, {-1, -1},
        {LOW, 0}, {HIGH, 0}, {0, LOW}, {0, HIGH}};

    public static void main(String[] args) {
        sourceTakesTheLastCells();
        sourceRefusesWhereThereIsNoCell();
        sourceTakesOneAndSixtyFourBits();
        sourceRefusesOtherNumbersOfBits();
        sourceRefusesTheFifth();
        sourceTakesTheLowestBits();
        sourceHasTheNextNumber();
        probeTakesTheLastCells();
        probeRefusesWhereThereIsNoCell();
        probeRefusesTheFifth();
        probeHasTheNextNumber();
        Check.end();
    }

    private static void sourceTakesTheLastCells() {
        for (int[] corner : CORNERS) {
            WireField x = new WireField();
            x.set(corner[0], corner[1], 3);
            Check.due("a source in a corner", x.source(corner[0], corner[1], 1L, 2), 0);
            x.run(1);
            Check.due("it acts", x.cell(corner[0], corner[1]), 2);
        }
    }

    /** "-1 (refused) if there is no such cell" */
    private static void sourceRefusesWhereThereIsNoCell() {
        for (int[] c : NO_CELLS) {
            Twins.changesNothing("source(" + c[0] + ", " + c[1] + ", -1, 64)", Twins::busy,
                    x -> Integer.toString(x.source(c[0], c[1], -1L, 64)), "-1");
        }
    }

    private static void sourceTakesOneAndSixtyFourBits() {
        WireField x = new WireField();
        Check.due("n = 1", x.source(0, 0, Long.MIN_VALUE, 1), 0);
        Check.due("n = 64", x.source(0, 0, Long.MIN_VALUE, 64), 1);
        Check.due("n = 0", x.source(0, 0, 1L, 0), -1);
        Check.due("n = 65", x.source(0, 0, 1L, 65), -1);
        Check.due("look(5)", x.look(5), 2);
    }

    /** "n is not 1 .. 64" */
    private static void sourceRefusesOtherNumbersOfBits() {
        int[] wrong = {0, 65, -1, -64, 66, 128, LOW, LOW + 1, HIGH};
        for (int n : wrong) {
            Twins.changesNothing("source(8, 4, -1, " + n + ")", Twins::busy,
                    x -> Integer.toString(x.source(8, 4, -1L, n)), "-1");
        }
    }

    /** "or four are there" */
    private static void sourceRefusesTheFifth() {
        for (int[] corner : CORNERS) {
            Twins.changesNothing("a fifth source in a corner", Twins::full,
                    x -> Integer.toString(x.source(corner[0], corner[1], -1L, 64)), "-1");
        }
        Twins.changesNothing("a fifth source on a wire", Twins::full, x -> Integer.toString(x.source(8, 4, 1L, 1)), "-1");
    }

    /** "with the lowest n bits of a number" */
    private static void sourceTakesTheLowestBits() {
        long[] patterns = {0x5555555555555555L, -1L, 0x123456789ABCDEFL, Long.MIN_VALUE, Long.MAX_VALUE};
        for (int n = 1; n < 64; n++) {
            for (long pattern : patterns) {
                Check.due(n + " bits of " + pattern, recordOf(pattern, n), recordOf(pattern & (1L << n) - 1, n));
            }
        }
    }

    /** What a probe beside the source has seen behind two times sixty generations. */
    private static long recordOf(long pattern, int n) {
        WireField x = new WireField();
        Check.paint(x, 0, 0, "##");
        x.source(0, 0, pattern, n);
        x.probe(1, 0);
        x.run(60);
        x.run(60);
        return x.record(0);
    }

    /** "its number", also behind refused ones. */
    private static void sourceHasTheNextNumber() {
        WireField x = new WireField();
        for (int i = 0; i < 4; i++) {
            Check.due("a refused one", x.source(32, 0, 1L, 1), -1);
            Check.due("another refused one", x.source(0, 0, 1L, 65), -1);
            Check.due("source number " + i, x.source(i, i, i, i + 1), i);
            Check.due("look(5)", x.look(5), i + 1);
        }
        Check.due("the fifth", x.source(0, 0, 1L, 1), -1);
        Check.due("the sixth", x.source(0, 0, 1L, 1), -1);
        Check.due("look(5) then", x.look(5), 4);
    }

    private static void probeTakesTheLastCells() {
        WireField x = new WireField();
        for (int i = 0; i < 4; i++) {
            Check.due("a probe in a corner", x.probe(CORNERS[i][0], CORNERS[i][1]), i);
        }
    }

    /** "-1 (refused) if there is no such cell" */
    private static void probeRefusesWhereThereIsNoCell() {
        for (int[] c : NO_CELLS) {
            Twins.changesNothing("probe(" + c[0] + ", " + c[1] + ")", Twins::busy,
                    x -> Integer.toString(x.probe(c[0], c[1])), "-1");
        }
    }

    /** "or four are there" */
    private static void probeRefusesTheFifth() {
        for (int[] corner : CORNERS) {
            Twins.changesNothing("a fifth probe in a corner", Twins::full,
                    x -> Integer.toString(x.probe(corner[0], corner[1])), "-1");
        }
        Twins.changesNothing("a fifth probe on a wire", Twins::full, x -> Integer.toString(x.probe(9, 3)), "-1");
    }

    /** "its number", also behind refused ones. */
    private static void probeHasTheNextNumber() {
        WireField x = new WireField();
        for (int i = 0; i < 4; i++) {
            Check.due("a refused one", x.probe(0, 24), -1);
            Check.due("probe number " + i, x.probe(5, 5), i);
            Check.due("look(6)", x.look(6), i + 1);
        }
        Check.due("the fifth", x.probe(5, 5), -1);
        Check.due("the sixth", x.probe(5, 5), -1);
        Check.due("look(6) then", x.look(6), 4);
    }
}
