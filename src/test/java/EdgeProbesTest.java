/** The boundary sentences of the term PROBES. */
public final class EdgeProbesTest {
    public static void main(String[] args) {
        atMostFour();
        atTheCornersOfTheField();
        onlyBehindAGeneration();
        theRecordIsALong();
        theRecordOfMoreThanSixtyFour();
        theTimeIsCountedFromTheBeginning();
        takingBackCountsDownTheTimeAlone();
        Check.end();
    }

    /** One electron on a loop of eight cells: (3, 0) is HEAD at the times 1, 9, 17 and so on. */
    private static WireField loop() {
        WireField x = new WireField();
        Check.paint(x, 0, 0, ".TH#./#...#/.###.");
        return x;
    }

    /** "PROBES (at most 4)": the fourth one counts, the fifth one is not there. */
    private static void atMostFour() {
        WireField x = loop();
        for (int i = 0; i < 5; i++) {
            Check.due("probe number " + i, x.probe(3, 0), i < 4 ? i : -1);
            Check.due("look(6)", x.look(6), i < 4 ? i + 1 : 4);
        }
        x.run(1);
        for (int i = 0; i < 5; i++) {
            Check.due("seen(" + i + ", 0)", Check.seen(x, i, 0), i < 4 ? "1" : Check.INDEX);
            Check.due("seen(" + i + ", 1)", Check.seen(x, i, 1), i < 4 ? "1" : Check.INDEX);
            Check.due("record(" + i + ")", x.record(i), i < 4 ? 1 : 0);
        }
        x.back(1);
        Check.due("a fifth one when taken back", x.probe(1, 1), -1);
    }

    private static void atTheCornersOfTheField() {
        int[][] corners = {{0, 0, 1, 0}, {31, 0, 30, 0}, {0, 23, 0, 22}, {31, 23, 30, 22}};
        for (int[] c : corners) {
            WireField x = new WireField();
            x.set(c[0], c[1], 3);
            x.set(c[2], c[3], 1);
            x.probe(c[0], c[1]);
            x.run(2);
            Check.due("seen(0, 0) of a corner", Check.seen(x, 0, 0), "1");
            Check.due("seen(0, 1) of a corner", Check.seen(x, 0, 1), "1");
            Check.due("record(0) of a corner", x.record(0), 2);
        }
    }

    /** "the number of generations after which it was HEAD": a HEAD that was there or was put there counts not. */
    private static void onlyBehindAGeneration() {
        WireField x = new WireField();
        x.set(5, 5, 1);
        x.probe(5, 5);
        Check.due("record(0) before", x.record(0), 0);
        x.run(1);
        Check.due("a HEAD before the first generation", Check.seen(x, 0, 0), "0");
        Check.draw(x, "E", 5, 5, 0);
        x.set(5, 5, 1);
        Check.due("a HEAD that was drawn and set", Check.seen(x, 0, 0), "0");
        Check.due("its time", Check.seen(x, 0, 1), "-1");
        Check.due("its record", x.record(0), 0);
        x.source(5, 5, -1L, 64);
        x.run(60);
        Check.due("a HEAD that a source made before", Check.seen(x, 0, 0), "0");
        Check.due("its record then", x.record(0), 0);
    }

    /** "a RECORD: a long, times 2, plus 1 if it is HEAD, after each generation": the 64th makes it negative. */
    private static void theRecordIsALong() {
        WireField x = new WireField();
        Check.paint(x, 0, 0, "H#");
        x.probe(1, 0);
        long[] due = {1L << 61, 1L << 62, Long.MIN_VALUE, 0L, 0L};
        x.run(60);
        x.run(1);
        for (int i = 0; i < due.length; i++) {
            x.run(1);
            Check.due("record(0) after " + (62 + i), x.record(0), due[i]);
            Check.due("seen(0, 0) after " + (62 + i), Check.seen(x, 0, 0), "1");
        }
    }

    /** What was more than 64 generations ago has gone out of the long. */
    private static void theRecordOfMoreThanSixtyFour() {
        WireField x = loop();
        x.probe(3, 0);
        x.probe(4, 1);
        for (int i = 0; i < 4; i++) {
            x.run(32);
        }
        Check.due("record(0) after 128", x.record(0), 0x8080808080808080L);
        Check.due("record(1) after 128", x.record(1), 0x4040404040404040L);
        x.run(1);
        Check.due("record(0) after 129", x.record(0), 0x0101010101010101L);
        Check.due("record(1) after 129", x.record(1), 0x8080808080808080L);
        Check.due("seen(0, 0) after 129", Check.seen(x, 0, 0), "17");
    }

    /** "The TIME is the number of generations since the beginning", not since the probe was added. */
    private static void theTimeIsCountedFromTheBeginning() {
        WireField x = loop();
        x.run(10);
        x.probe(3, 0);
        x.run(6);
        Check.due("seen(0, 1) before the next one", Check.seen(x, 0, 1), "-1");
        Check.due("record(0) before the next one", x.record(0), 0);
        x.run(1);
        Check.due("seen(0, 1) at the next one", Check.seen(x, 0, 1), "17");
        Check.due("record(0) at the next one", x.record(0), 1);
        Check.due("look(0)", x.look(0), 17);
    }

    /** "taking back does not count down what probes have counted, but the time" */
    private static void takingBackCountsDownTheTimeAlone() {
        WireField x = loop();
        x.probe(3, 0);
        x.run(17);
        Check.due("back(16)", x.back(16), true);
        Check.due("look(0) taken back", x.look(0), 1);
        Check.due("seen(0, 0) taken back", Check.seen(x, 0, 0), "3");
        Check.due("seen(0, 1) taken back", Check.seen(x, 0, 1), "17");
        Check.due("record(0) taken back", x.record(0), 1L << 16 | 1L << 8 | 1L);
        x.run(8);
        Check.due("look(0) then", x.look(0), 9);
        Check.due("seen(0, 0) then", Check.seen(x, 0, 0), "4");
        Check.due("the latest one is at an earlier time then", Check.seen(x, 0, 1), "9");
        Check.due("record(0) then", x.record(0), 1L << 24 | 1L << 16 | 1L << 8 | 1L);
        WireField y = loop();
        y.probe(3, 0);
        y.run(1);
        y.back(1);
        Check.due("look(0) at the beginning again", y.look(0), 0);
        Check.due("seen(0, 1) at the beginning again", Check.seen(y, 0, 1), "1");
    }
}
