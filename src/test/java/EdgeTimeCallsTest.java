/** The boundary sentences of the promises 11 to 13 (run, back, period), and that what is refused changes nothing. */
public final class EdgeTimeCallsTest {
    private static final int LOW = Integer.MIN_VALUE;
    private static final int HIGH = Integer.MAX_VALUE;

    public static void main(String[] args) {
        runTakesOneToSixty();
        runRefusesOtherNumbers();
        runTellsTheHeadsOfTheLast();
        backTakesOneUpToAllThatCanBe();
        backRefusesBelowOne();
        backRefusesMoreThanCanBe();
        backRefusesWhenForgotten();
        backStandsSourcesAsTheyWere();
        periodIsTheLeast();
        periodOfOneToSixteen();
        periodAsksOnlyWhatCanBeTakenBack();
        periodOfAnEmptyField();
        Check.end();
    }

    private static void runTakesOneToSixty() {
        for (int n = -1; n <= 62; n++) {
            WireField x = new WireField();
            boolean taken = n >= 1 && n <= 60;
            Check.due("run(" + n + ")", x.run(n), taken ? 0 : -1);
            Check.due("look(0) after run(" + n + ")", x.look(0), taken ? n : 0);
        }
    }

    /** "-1 (refused) if n is not 1 .. 60" */
    private static void runRefusesOtherNumbers() {
        int[] wrong = {0, 61, -1, -60, 62, 256, 257, LOW, LOW + 1, HIGH};
        for (int n : wrong) {
            Twins.changesNothing("run(" + n + ")", Twins::busy, x -> Integer.toString(x.run(n)), "-1");
            Twins.changesNothing("run(" + n + ") on a full one", Twins::full, x -> Integer.toString(x.run(n)), "-1");
        }
    }

    /** "the number of HEADs then": none, one, and more than the field had before. */
    private static void runTellsTheHeadsOfTheLast() {
        WireField x = new WireField();
        Check.paint(x, 10, 10, "###/#H#/###");
        Check.due("eight beside one", x.run(1), 8);
        Check.due("none beside two or more", x.run(1), 0);
        WireField y = new WireField();
        Check.paint(y, 0, 0, "H###");
        Check.due("the last cell of a wire", y.run(3), 1);
        Check.due("behind the last cell", y.run(1), 0);
    }

    private static void backTakesOneUpToAllThatCanBe() {
        for (int kept = 0; kept <= 17; kept++) {
            for (int n = -1; n <= 18; n++) {
                WireField x = new WireField();
                if (kept > 0) {
                    x.run(kept);
                }
                boolean taken = n >= 1 && n <= kept && n <= 16;
                Check.due("back(" + n + ") after " + kept, x.back(n), taken);
                Check.due("look(0) then", x.look(0), taken ? kept - n : kept);
            }
        }
    }

    /** "false (refused) if n is below 1" */
    private static void backRefusesBelowOne() {
        int[] wrong = {0, -1, -2, -13, -16, LOW, LOW + 1};
        for (int n : wrong) {
            Twins.changesNothing("back(" + n + ")", Twins::busy, x -> Boolean.toString(x.back(n)), "false");
            Twins.changesNothing("back(" + n + ") on a full one", Twins::full, x -> Boolean.toString(x.back(n)), "false");
        }
    }

    /** "or so many can not be": a busy one has 13, a full one 16. */
    private static void backRefusesMoreThanCanBe() {
        int[] wrong = {14, 15, 16, 17, 60, HIGH};
        for (int n : wrong) {
            Twins.changesNothing("back(" + n + ")", Twins::busy, x -> Boolean.toString(x.back(n)), "false");
        }
        int[] wrongWhenFull = {17, 18, 32, 60, HIGH};
        for (int n : wrongWhenFull) {
            Twins.changesNothing("back(" + n + ") on a full one", Twins::full, x -> Boolean.toString(x.back(n)), "false");
        }
        Check.due("back(13)", Twins.busy().back(13), true);
        Check.due("back(16) on a full one", Twins.full().back(16), true);
    }

    private static WireField forgotten() {
        WireField x = Twins.busy();
        x.set(0, 0, 3);
        return x;
    }

    private static void backRefusesWhenForgotten() {
        int[] wrong = {1, 2, 13, 16};
        for (int n : wrong) {
            Twins.changesNothing("back(" + n + ") when forgotten", EdgeTimeCallsTest::forgotten,
                    x -> Boolean.toString(x.back(n)), "false");
            Twins.changesNothing("back(" + n + ") of a new one", WireField::new, x -> Boolean.toString(x.back(n)), "false");
        }
    }

    /** "(Sources stand as they were then.)": taken back and run again, the field is as it was. */
    private static void backStandsSourcesAsTheyWere() {
        for (int n = 1; n <= 16; n++) {
            WireField straight = Twins.full();
            WireField again = Twins.full();
            Check.due("back(" + n + ")", again.back(n), true);
            Check.due("run(" + n + ")", again.run(n), straight.look(1));
            Check.due("the field after back(" + n + ") and run(" + n + ")",
                    Check.picture(again, 0, 0, 20, 10), Check.picture(straight, 0, 0, 20, 10));
        }
    }

    /** "The least p of 1 .. 16": a still field is as it was 1, 2, 3 .. generations ago. */
    private static void periodIsTheLeast() {
        WireField x = new WireField();
        x.set(9, 9, 3);
        x.run(16);
        Check.due("period() of a still field", x.period(), 1);
        WireField y = new WireField();
        y.set(9, 9, 3);
        y.source(9, 9, 1L, 2);
        y.run(17);
        Check.due("period() of what is as it was 2, 4 .. 16 ago", y.period(), 2);
        WireField z = loop();
        z.run(16);
        Check.due("period() of what is as it was 8 and 16 ago", z.period(), 8);
    }

    /** One electron on a loop of eight cells. */
    private static WireField loop() {
        WireField x = new WireField();
        Check.paint(x, 0, 0, ".TH#./#...#/.###.");
        return x;
    }

    /** "The least p of 1 .. 16": a lone WIRE is TAIL once in n generations, so TAIL it was n ago and not since. */
    private static void periodOfOneToSixteen() {
        for (int n = 2; n <= 20; n++) {
            WireField x = new WireField();
            x.set(9, 9, 3);
            x.source(9, 9, 1L, n);
            x.run(1);
            x.run(n);
            Check.due("the cell", x.cell(9, 9), 2);
            Check.due("period() of " + n, x.period(), n <= 16 ? n : 0);
        }
    }

    /** "0 if there is none of those that can be taken back" */
    private static void periodAsksOnlyWhatCanBeTakenBack() {
        for (int kept = 1; kept <= 20; kept++) {
            WireField x = loop();
            x.run(kept);
            Check.due("period() of a loop of eight after " + kept, x.period(), kept >= 8 ? 8 : 0);
        }
        for (int n = 1; n <= 16; n++) {
            WireField x = loop();
            x.run(16);
            x.back(n);
            Check.due("period() with " + (16 - n) + " left", x.period(), 16 - n >= 8 ? 8 : 0);
        }
        WireField x = loop();
        x.run(30);
        x.set(31, 23, 0);
        Check.due("period() when forgotten", x.period(), 0);
        x.run(7);
        Check.due("period() seven later", x.period(), 0);
        x.run(1);
        Check.due("period() eight later", x.period(), 8);
    }

    private static void periodOfAnEmptyField() {
        WireField x = new WireField();
        Check.due("period() before the first generation", x.period(), 0);
        x.run(1);
        Check.due("period() after the first", x.period(), 1);
        x.back(1);
        Check.due("period() when that is taken back", x.period(), 0);
        Twins.changesNothing("period()", Twins::busy, y -> Integer.toString(y.period()), "0");
        Twins.changesNothing("period() of a new one", WireField::new, y -> Integer.toString(y.period()), "0");
    }
}
