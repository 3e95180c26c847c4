/**
 * The boundary sentences of the promises 1 and 14 to 16 (a new object, seen, record, look), that what is refused changes
 * nothing, and the 512 calls of an object.
 */
public final class EdgeAskCallsTest {
    private static final int LOW = Integer.MIN_VALUE;
    private static final int HIGH = Integer.MAX_VALUE;

    public static void main(String[] args) {
        aNewObjectHasNothing();
        seenThrowsWithoutSuchProbe();
        seenThrowsWithoutSuchWhat();
        seenIsMinusOneBefore();
        recordIsZeroIfThereIsNone();
        lookIsMinusOneForAnotherWhat();
        lookOfEmptyAndFull();
        askingChangesNothing();
        fiveHundredAndTwelveCalls();
        Check.end();
    }

    /** "An empty field and line, no macros, sources, probes; the time is 0." */
    private static void aNewObjectHasNothing() {
        for (int what = 0; what <= 7; what++) {
            Check.due("look(" + what + ") of a new one", new WireField().look(what), 0);
        }
        WireField x = new WireField();
        Check.due("draw of the line", Check.drawLine(x, 0, 0, 0), "0");
        for (char letter = 'a'; letter <= 'd'; letter++) {
            Check.due("draw of @" + letter, Check.draw(x, "@" + letter, 0, 0, 0), Check.ARGUMENT);
        }
        for (int i = 0; i < 4; i++) {
            Check.due("seen(" + i + ", 0)", Check.seen(x, i, 0), Check.INDEX);
            Check.due("record(" + i + ")", x.record(i), 0);
        }
        int[][] cells = {{0, 0}, {31, 0}, {0, 23}, {31, 23}, {16, 12}};
        for (int[] cell : cells) {
            Check.due("cell(" + cell[0] + ", " + cell[1] + ")", x.cell(cell[0], cell[1]), 0);
        }
        Check.due("back(1)", x.back(1), false);
        Check.due("period()", x.period(), 0);
        Check.due("the first source", x.source(0, 0, 1L, 1), 0);
        Check.due("the first probe", x.probe(0, 0), 0);
    }

    /** "IndexOutOfBoundsException: there is no such probe": the first behind the last, and below 0. */
    private static void seenThrowsWithoutSuchProbe() {
        for (int count = 0; count <= 4; count++) {
            WireField x = new WireField();
            for (int i = 0; i < count; i++) {
                x.probe(i, i);
            }
            for (int probe = -1; probe <= 5; probe++) {
                boolean isThere = probe >= 0 && probe < count;
                Check.due("seen(" + probe + ", 0) of " + count, Check.seen(x, probe, 0), isThere ? "0" : Check.INDEX);
                Check.due("seen(" + probe + ", 1) of " + count, Check.seen(x, probe, 1), isThere ? "-1" : Check.INDEX);
            }
        }
        int[] wrong = {-1, 2, 3, 4, LOW, HIGH};
        for (int probe : wrong) {
            Twins.changesNothing("seen(" + probe + ", 0)", Twins::busy, x -> Check.seen(x, probe, 0), Check.INDEX);
            Twins.changesNothing("seen(" + probe + ", 1)", Twins::busy, x -> Check.seen(x, probe, 1), Check.INDEX);
        }
        Twins.changesNothing("seen(4, 0) of four", Twins::full, x -> Check.seen(x, 4, 0), Check.INDEX);
    }

    /** "or what" */
    private static void seenThrowsWithoutSuchWhat() {
        int[] wrong = {-1, 2, 3, 256, LOW, LOW + 1, HIGH};
        for (int what : wrong) {
            Twins.changesNothing("seen(0, " + what + ")", Twins::busy, x -> Check.seen(x, 0, what), Check.INDEX);
            Check.due("seen(4, " + what + ")", Check.seen(Twins.busy(), 4, what), Check.INDEX);
        }
    }

    /** "the time of the latest one, -1 before (1)" */
    private static void seenIsMinusOneBefore() {
        WireField x = new WireField();
        Check.paint(x, 0, 0, "H##");
        x.probe(2, 0);
        Check.due("before a generation", Check.seen(x, 0, 1), "-1");
        x.run(1);
        Check.due("before the first one", Check.seen(x, 0, 1), "-1");
        Check.due("how often", Check.seen(x, 0, 0), "0");
        x.run(1);
        Check.due("at the first one", Check.seen(x, 0, 1), "2");
        Check.due("how often then", Check.seen(x, 0, 0), "1");
        x.run(60);
        Check.due("long behind it", Check.seen(x, 0, 1), "2");
        Check.due("how often by then", Check.seen(x, 0, 0), "1");
    }

    /** "0 if there is none such" */
    private static void recordIsZeroIfThereIsNone() {
        int[] wrong = {-1, 2, 3, 4, LOW, HIGH};
        for (int probe : wrong) {
            Twins.changesNothing("record(" + probe + ")", Twins::busy, x -> Long.toString(x.record(probe)), "0");
        }
        int[] wrongOfFour = {-1, 4, 5, LOW, HIGH};
        for (int probe : wrongOfFour) {
            Twins.changesNothing("record(" + probe + ") of four", Twins::full, x -> Long.toString(x.record(probe)), "0");
        }
        WireField x = new WireField();
        Check.paint(x, 0, 0, "H#");
        for (int i = 0; i < 4; i++) {
            x.probe(1, 0);
        }
        x.run(1);
        for (int probe = -1; probe <= 4; probe++) {
            Check.due("record(" + probe + ") of four", x.record(probe), probe >= 0 && probe <= 3 ? 1 : 0);
        }
    }

    /** "-1 for another what" */
    private static void lookIsMinusOneForAnotherWhat() {
        int[] wrong = {-1, 8, 9, -8, 256, 263, LOW, LOW + 1, HIGH};
        for (int what : wrong) {
            Twins.changesNothing("look(" + what + ")", Twins::busy, x -> Integer.toString(x.look(what)), "-1");
        }
        for (int what = 0; what <= 7; what++) {
            Check.due("look(" + what + ")", new WireField().look(what), 0);
        }
    }

    /** The least and the most that each look can tell. */
    private static void lookOfEmptyAndFull() {
        WireField x = Twins.full();
        Check.due("generations that can be taken back", x.look(4), 16);
        Check.due("sources", x.look(5), 4);
        Check.due("probes", x.look(6), 4);
        Check.due("characters of the line", x.look(7), 60);
        x.back(16);
        x.wipe();
        Check.due("generations when all are taken back", x.look(4), 0);
        Check.due("sources then", x.look(5), 4);
        Check.due("probes then", x.look(6), 4);
        Check.due("characters when wiped", x.look(7), 0);
    }

    private static void askingChangesNothing() {
        WireField x = Twins.full();
        for (int probe = 0; probe < 4; probe++) {
            int p = probe;
            for (int what = 0; what <= 1; what++) {
                int w = what;
                Twins.changesNothing("seen(" + p + ", " + w + ")", Twins::full, y -> Check.seen(y, p, w),
                        Check.seen(x, p, w));
            }
            Twins.changesNothing("record(" + p + ")", Twins::full, y -> Long.toString(y.record(p)),
                    Long.toString(x.record(p)));
        }
        for (int what = 0; what <= 7; what++) {
            int w = what;
            Twins.changesNothing("look(" + w + ")", Twins::full, y -> Integer.toString(y.look(w)),
                    Integer.toString(x.look(w)));
        }
    }

    /** "An object is used for at most 512 calls": the last of them are answered as the first. */
    private static void fiveHundredAndTwelveCalls() {
        WireField x = new WireField();
        Check.paint(x, 0, 0, ".TH#./#...#/.###.");
        x.probe(3, 0);
        for (int call = 17; call <= 508; call++) {
            Check.due("call " + call, x.run(60), 1);
        }
        Check.due("call 509", x.look(0), 492 * 60);
        Check.due("call 510", Check.seen(x, 0, 0), Integer.toString(492 * 60 / 8));
        Check.due("call 511", Check.seen(x, 0, 1), Integer.toString(492 * 60 - 7));
        Check.due("call 512", x.record(0), 0x8080808080808080L);
        WireField y = new WireField();
        for (int call = 1; call <= 511; call++) {
            Check.due("call " + call, y.type('F'), call <= 60);
        }
        Check.due("call 512", Check.drawLine(y, 0, 0, 1), Check.UNSUPPORTED);
    }
}
