/** Promise 14: seen. */
public final class Promise14SeenTest {
    public static void main(String[] args) {
        countsAndTimes();
        noSuchProbeOrWhat();
        onlyGenerationsCount();
        Check.end();
    }

    private static void countsAndTimes() {
        WireField x = new WireField();
        Check.paint(x, 0, 0, ".TH#./#...#/.###.");
        x.probe(3, 0);
        Check.due("count before", Check.seen(x, 0, 0), "0");
        Check.due("time before", Check.seen(x, 0, 1), "-1");
        for (int time = 1; time <= 60; time++) {
            x.run(1);
            int rounds = (time + 7) / 8;
            Check.due("count at " + time, Check.seen(x, 0, 0), Integer.toString(rounds));
            Check.due("time at " + time, Check.seen(x, 0, 1), Integer.toString((rounds - 1) * 8 + 1));
        }
    }

    private static void noSuchProbeOrWhat() {
        WireField x = new WireField();
        int[] wrongProbes = {-1, 4, Integer.MIN_VALUE, Integer.MAX_VALUE};
        int[] wrongWhats = {-1, 2, 3, Integer.MIN_VALUE, Integer.MAX_VALUE};
        for (int count = 0; count <= 4; count++) {
            for (int probe = 0; probe < 4; probe++) {
                for (int what = 0; what <= 1; what++) {
                    String due = probe >= count ? Check.INDEX : what == 0 ? "0" : "-1";
                    Check.due("seen(" + probe + ", " + what + ") of " + count, Check.seen(x, probe, what), due);
                }
                for (int what : wrongWhats) {
                    Check.due("seen(" + probe + ", " + what + ")", Check.seen(x, probe, what), Check.INDEX);
                }
            }
            for (int probe : wrongProbes) {
                Check.due("seen(" + probe + ", 0)", Check.seen(x, probe, 0), Check.INDEX);
                Check.due("seen(" + probe + ", 1)", Check.seen(x, probe, 1), Check.INDEX);
            }
            x.probe(count, count);
        }
    }

    private static void onlyGenerationsCount() {
        WireField x = new WireField();
        x.probe(5, 5);
        x.set(5, 5, 1);
        Check.draw(x, "E", 5, 5, 0);
        Check.due("a HEAD that was set", Check.seen(x, 0, 0), "0");
        Check.due("its time", Check.seen(x, 0, 1), "-1");
        x.run(1);
        Check.due("a HEAD that is TAIL now", Check.seen(x, 0, 0), "0");
        Check.due("its time now", Check.seen(x, 0, 1), "-1");
        x.run(1);
        x.set(4, 5, 1);
        x.run(1);
        Check.due("a WIRE that became HEAD", Check.seen(x, 0, 0), "1");
        Check.due("its time then", Check.seen(x, 0, 1), "3");
        x.set(5, 5, 0);
        x.run(5);
        Check.due("the count stays", Check.seen(x, 0, 0), "1");
        Check.due("the time stays", Check.seen(x, 0, 1), "3");
    }
}
