/** Promise 13: period. */
public final class Promise13PeriodTest {
    public static void main(String[] args) {
        stillFields();
        everyPeriod();
        onlyWhatCanBeTakenBack();
        theFieldAloneIsCompared();
        contentsAreTold();
        Check.end();
    }

    private static void stillFields() {
        WireField x = new WireField();
        Check.due("period() at the beginning", x.period(), 0);
        x.run(1);
        Check.due("period() of an empty field", x.period(), 1);
        x.run(20);
        Check.due("period() of an empty field later", x.period(), 1);
        x.set(3, 3, 3);
        Check.due("period() when forgotten", x.period(), 0);
        x.run(1);
        Check.due("period() of a wire", x.period(), 1);
    }

    /** A lone wire with a source of one bit in n comes back after n generations (2 if n is 1). */
    private static void everyPeriod() {
        for (int n = 1; n <= 20; n++) {
            WireField x = new WireField();
            x.set(9, 9, 3);
            x.source(9, 9, 1L, n);
            // The cell is TAIL behind each generation that follows the bit.
            x.run(1);
            int p = n == 1 ? 2 : n;
            for (int i = 1; i <= 40; i++) {
                x.run(1);
                if (i % p == 0) {
                    Check.due("period() of " + n + " after " + i, x.period(), p <= 16 ? p : 0);
                }
            }
        }
    }

    private static void onlyWhatCanBeTakenBack() {
        WireField x = new WireField();
        Check.paint(x, 0, 0, ".TH#./#...#/.###.");
        for (int i = 1; i <= 7; i++) {
            x.run(1);
            Check.due("period() of a loop after " + i, x.period(), 0);
        }
        x.run(1);
        Check.due("period() of a loop after 8", x.period(), 8);
        x.run(30);
        Check.due("period() of a loop after 38", x.period(), 8);
        Check.due("back(9)", x.back(9), true);
        Check.due("period() with seven left", x.period(), 0);
        x.run(1);
        Check.due("period() with eight left", x.period(), 8);
        x.set(0, 0, 0);
        Check.due("period() when forgotten", x.period(), 0);
        x.run(7);
        Check.due("period() seven later", x.period(), 0);
        x.run(1);
        Check.due("period() eight later", x.period(), 8);
        sixteenButNotSeventeen();
    }

    private static void sixteenButNotSeventeen() {
        for (int round = 16; round <= 17; round++) {
            WireField x = new WireField();
            x.set(9, 9, 3);
            x.source(9, 9, 1L, round);
            x.run(1);
            x.run(round - 1);
            Check.due("period() when it was never so, round " + round, x.period(), 1);
            x.run(1);
            Check.due("period() of " + round, x.period(), round == 16 ? 16 : 0);
        }
    }

    private static void theFieldAloneIsCompared() {
        WireField x = new WireField();
        x.set(9, 9, 3);
        x.source(9, 9, 0L, 60);
        x.source(0, 0, 5L, 50);
        x.probe(9, 9);
        x.run(3);
        Check.due("places and times are not asked", x.period(), 1);
        Check.due("period() changes nothing", x.look(4), 3);
    }

    private static void contentsAreTold() {
        WireField x = new WireField();
        x.set(31, 23, 1);
        x.run(1);
        Check.due("HEAD to TAIL", x.period(), 0);
        x.run(1);
        Check.due("TAIL to WIRE", x.period(), 0);
        x.run(1);
        Check.due("WIRE to WIRE", x.period(), 1);
    }
}
