/** Promise 15: record. */
public final class Promise15RecordTest {
    public static void main(String[] args) {
        oneBitForEachGeneration();
        noSuchProbe();
        Check.end();
    }

    private static void oneBitForEachGeneration() {
        WireField x = new WireField();
        Check.paint(x, 0, 0, ".TH#./#...#/.###.");
        x.probe(3, 0);
        x.probe(9, 9);
        long due = 0L;
        for (int time = 1; time <= 150; time++) {
            x.run(1);
            due = due * 2 + (time % 8 == 1 ? 1 : 0);
            Check.due("record(0) at " + time, x.record(0), due);
            Check.due("record(1) at " + time, x.record(1), 0);
        }
        WireField y = new WireField();
        Check.paint(y, 0, 0, "H#");
        y.probe(1, 0);
        y.run(60);
        y.run(3);
        Check.due("record(0) with the highest bit but one", y.record(0), 1L << 62);
        y.run(1);
        Check.due("record(0) with the highest bit", y.record(0), Long.MIN_VALUE);
        y.run(1);
        Check.due("record(0) beyond the highest bit", y.record(0), 0);
        Check.due("seen(0, 0) is longer", Check.seen(y, 0, 0), "1");
    }

    private static void noSuchProbe() {
        WireField x = new WireField();
        Check.paint(x, 0, 0, "H#H");
        int[] wrong = {-1, 1, 2, 3, 4, Integer.MIN_VALUE, Integer.MAX_VALUE};
        Check.due("record(0) of none", x.record(0), 0);
        x.probe(1, 0);
        x.run(1);
        Check.due("record(0)", x.record(0), 1);
        for (int probe : wrong) {
            Check.due("record(" + probe + ")", x.record(probe), 0);
        }
        for (int i = 1; i < 4; i++) {
            x.probe(1, 0);
        }
        Check.due("record(4) of four", x.record(4), 0);
        Check.due("record(-1) of four", x.record(-1), 0);
    }
}
