import java.util.function.Consumer;

/** The boundary sentences of the term HISTORY. */
public final class EdgeHistoryTest {
    public static void main(String[] args) {
        theLatestSixteenGenerations();
        sixteenOverSeveralRuns();
        theOldestOneIsRight();
        takenBackAndRunAgain();
        drawingCopyingOrSettingForgets();
        otherCallsForgetNothing();
        afterForgettingItBeginsAnew();
        Check.end();
    }

    /** "the fields of the latest 16 generations can be taken back" */
    private static void theLatestSixteenGenerations() {
        int[] lengths = {1, 2, 15, 16, 17, 18, 31, 32, 33, 59, 60};
        for (int length : lengths) {
            int kept = length < 16 ? length : 16;
            WireField x = new WireField();
            x.run(length);
            Check.due("look(4) after " + length, x.look(4), kept);
            Check.due("one more than can be after " + length, x.back(kept + 1), false);
            Check.due("look(0) then", x.look(0), length);
            Check.due("as many as can be after " + length, x.back(kept), true);
            Check.due("look(0) then", x.look(0), length - kept);
            Check.due("look(4) then", x.look(4), 0);
            Check.due("one more then", x.back(1), false);
        }
        WireField x = new WireField();
        Check.due("look(4) at the beginning", x.look(4), 0);
        Check.due("back(1) at the beginning", x.back(1), false);
    }

    private static void sixteenOverSeveralRuns() {
        WireField x = new WireField();
        for (int time = 1; time <= 40; time++) {
            x.run(1);
            Check.due("look(4) at " + time, x.look(4), time < 16 ? time : 16);
        }
        WireField y = new WireField();
        y.run(10);
        y.run(5);
        Check.due("back(16) after 15", y.back(16), false);
        y.run(1);
        Check.due("back(16) after 16", y.back(16), true);
        Check.due("look(0)", y.look(0), 0);
    }

    /** A wire along which one electron goes: each field differs, so a wrong one shows. */
    private static void theOldestOneIsRight() {
        for (int length = 16; length <= 29; length++) {
            WireField x = new WireField();
            Check.draw(x, "30F", 0, 0, 1);
            Check.draw(x, "E", 1, 0, 1);
            x.run(length);
            Check.due("back(16) after " + length, x.back(16), true);
            for (int column = 1; column <= 30; column++) {
                int front = length - 16 + 1;
                Check.due("cell(" + column + ", 0) at " + (length - 16), x.cell(column, 0),
                        column == front ? 1 : column == front - 1 ? 2 : 3);
            }
        }
    }

    private static void takenBackAndRunAgain() {
        WireField x = new WireField();
        x.run(20);
        x.back(5);
        Check.due("look(4) after back(5)", x.look(4), 11);
        x.run(3);
        Check.due("look(4) after run(3)", x.look(4), 14);
        x.run(2);
        Check.due("look(4) after run(2)", x.look(4), 16);
        x.run(1);
        Check.due("look(4) after run(1)", x.look(4), 16);
        Check.due("look(0)", x.look(0), 21);
        Check.due("back(17)", x.back(17), false);
        Check.due("back(16)", x.back(16), true);
        Check.due("look(0) then", x.look(0), 5);
    }

    private static void forgets(String call, Consumer<WireField> caller, boolean does) {
        WireField x = Twins.busy("F");
        caller.accept(x);
        Check.due("look(4) after " + call, x.look(4), does ? 0 : 13);
        Check.due("look(0) after " + call, x.look(0), 17);
        Check.due("back(1) after " + call, x.back(1), !does);
        Check.due("look(0) after back(1) after " + call, x.look(0), does ? 17 : 16);
    }

    /** "(drawing, copying or setting forgets them)": also where the field stays as it is. */
    private static void drawingCopyingOrSettingForgets() {
        forgets("draw", x -> x.draw(0, 0, 1), true);
        forgets("draw of an empty line", x -> Check.draw(x, "", 0, 0, 0), true);
        forgets("draw with the pen up", x -> Check.draw(x, "UF", 0, 0, 1), true);
        forgets("set", x -> x.set(31, 23, 1), true);
        forgets("set of an EMPTY cell to EMPTY", x -> x.set(31, 23, 0), true);
        forgets("copy", x -> x.copy(0, 0, 9, 4, 20, 10, 3), true);
        forgets("copy of an EMPTY cell", x -> x.copy(31, 23, 1, 1, 0, 0, 0), true);
    }

    private static void otherCallsForgetNothing() {
        forgets("type", x -> x.type('F'), false);
        forgets("wipe", WireField::wipe, false);
        forgets("macro", x -> x.macro(2), false);
        forgets("cell", x -> x.cell(1, 1), false);
        forgets("source", x -> x.source(1, 1, 1L, 1), false);
        forgets("probe", x -> x.probe(1, 1), false);
        forgets("period", WireField::period, false);
        forgets("seen", x -> x.seen(0, 0), false);
        forgets("record", x -> x.record(0), false);
        forgets("look", x -> x.look(4), false);
        forgets("a refused set", x -> x.set(32, 0, 1), false);
        forgets("a refused copy", x -> x.copy(0, 0, 33, 1, 0, 0, 0), false);
        forgets("a draw that throws by its cell", x -> Check.drawLine(x, 32, 0, 0), false);
        forgets("a draw that throws by its line", x -> Check.draw(x, "X", 0, 0, 0), false);
        forgets("a draw that throws by its way", x -> Check.draw(x, "99F", 0, 0, 1), false);
        forgets("a refused run", x -> x.run(61), false);
        forgets("a refused back", x -> x.back(14), false);
    }

    private static void afterForgettingItBeginsAnew() {
        WireField x = new WireField();
        x.run(30);
        x.set(5, 5, 3);
        Check.due("period() when forgotten", x.period(), 0);
        for (int kept = 1; kept <= 18; kept++) {
            x.run(1);
            Check.due("look(4) after " + kept, x.look(4), kept < 16 ? kept : 16);
        }
        Check.due("back(16)", x.back(16), true);
        Check.due("look(0)", x.look(0), 32);
        Check.due("what was set is still there", x.cell(5, 5), 3);
    }
}
