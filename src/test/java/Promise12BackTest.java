/** Promise 12: back. */
public final class Promise12BackTest {
    public static void main(String[] args) {
        toEachOfTheLatestSixteen();
        wrongNumbers();
        stepByStep();
        sourcesStandAsTheyWere();
        theFieldIsWithoutWhatSourcesDidThen();
        aSourceAddedSinceBeginsAnew();
        probesKeepWhatTheyCounted();
        lineAndMacrosStay();
        Check.end();
    }

    private static WireField busy() {
        WireField x = new WireField();
        Check.draw(x, "12FR5FR12FR4FE", 3, 3, 1);
        Check.draw(x, "<6F", 20, 15, 3);
        x.source(19, 15, 37L, 7);
        x.source(6, 3, 1L, 13);
        x.probe(8, 3);
        return x;
    }

    /** All cells that are not EMPTY in a busy one lie here. */
    private static String fieldOf(WireField x) {
        return Check.picture(x, 3, 3, 18, 14) + " " + x.look(1) + " " + x.look(2) + " " + x.look(3);
    }

    /** The fields at each time up to one, each from an object of its own. */
    private static String[] fieldsUpTo(int length) {
        String[] fields = new String[length + 1];
        for (int time = 0; time <= length; time++) {
            WireField x = busy();
            if (time > 0) {
                x.run(time);
            }
            fields[time] = fieldOf(x);
        }
        return fields;
    }

    private static void toEachOfTheLatestSixteen() {
        String[] fields = fieldsUpTo(40);
        for (int length = 1; length <= 40; length++) {
            for (int n = 1; n <= 18; n++) {
                int kept = Math.min(length, 16);
                int time = n <= kept ? length - n : length;
                WireField x = busy();
                x.run(length);
                Check.due("look(4) after " + length, x.look(4), kept);
                Check.due("back(" + n + ") after " + length, x.back(n), n <= kept);
                Check.due("look(0) then", x.look(0), time);
                Check.due("look(4) then", x.look(4), n <= kept ? kept - n : kept);
                Check.due("the field then", fieldOf(x), fields[time]);
                WireField y = busy();
                y.run(length);
                if (y.back(n)) {
                    y.run(n);
                    Check.due("the field when run again", fieldOf(y), fields[length]);
                }
            }
        }
    }

    private static void wrongNumbers() {
        Check.due("back(1) at the beginning", busy().back(1), false);
        int[] wrong = {0, -1, 14, 16, 17, Integer.MIN_VALUE, Integer.MAX_VALUE};
        for (int n : wrong) {
            Twins.changesNothing("back(" + n + ")", Twins::busy, x -> Boolean.toString(x.back(n)), "false");
        }
        WireField x = busy();
        x.run(60);
        Check.due("back(17) after 60", x.back(17), false);
        Check.due("back(16) after 60", x.back(16), true);
        Check.due("back(1) after that", x.back(1), false);
        Check.due("look(0) after that", x.look(0), 44);
        x.run(1);
        Check.due("look(4) after one more", x.look(4), 1);
        Check.due("back(2) after one more", x.back(2), false);
        Check.due("back(1) after one more", x.back(1), true);
    }

    private static void stepByStep() {
        String[] fields = fieldsUpTo(30);
        for (int steps = 1; steps <= 17; steps++) {
            WireField x = busy();
            x.run(31);
            for (int i = 1; i <= steps; i++) {
                Check.due("back(1) number " + i, x.back(1), i <= 16);
            }
            int time = Math.max(31 - steps, 15);
            Check.due("the field at " + time, fieldOf(x), fields[time]);
            Check.due("look(0) at " + time, x.look(0), time);
            Check.due("look(4) at " + time, x.look(4), time - 15);
        }
    }

    private static void sourcesStandAsTheyWere() {
        for (int n = 1; n <= 16; n++) {
            WireField x = new WireField();
            x.set(5, 5, 3);
            x.source(5, 5, 1L, 10);
            x.run(23);
            x.back(n);
            // The bit acts before the generations 1, 11, 21, 31: the cell is TAIL behind each of them.
            for (int time = 24 - n; time <= 32; time++) {
                x.run(1);
                Check.due("cell at " + time + " after back(" + n + ")", x.cell(5, 5), time % 10 == 1 ? 2 : 3);
            }
        }
    }

    private static void theFieldIsWithoutWhatSourcesDidThen() {
        WireField x = new WireField();
        x.set(5, 5, 3);
        x.source(5, 5, 1L, 1);
        x.run(1);
        Check.due("the cell behind a generation", x.cell(5, 5), 2);
        Check.due("back(1)", x.back(1), true);
        Check.due("the cell taken back", x.cell(5, 5), 3);
        Check.due("look(1)", x.look(1), 0);
    }

    private static void aSourceAddedSinceBeginsAnew() {
        WireField x = new WireField();
        x.set(5, 5, 3);
        x.run(4);
        x.source(5, 5, 1L, 8);
        x.run(3);
        Check.due("back(5)", x.back(5), true);
        Check.due("look(5)", x.look(5), 1);
        Check.due("the cell", x.cell(5, 5), 3);
        x.run(1);
        Check.due("the first bit acts", x.cell(5, 5), 2);
        x.run(7);
        Check.due("then the others", x.cell(5, 5), 3);
        x.run(1);
        Check.due("then the first one", x.cell(5, 5), 2);
    }

    private static void probesKeepWhatTheyCounted() {
        WireField x = new WireField();
        Check.paint(x, 0, 0, "TH####");
        x.probe(4, 0);
        x.run(5);
        Check.due("record(0)", x.record(0), 4);
        Check.due("back(4)", x.back(4), true);
        Check.due("seen(0, 0) after back", Check.seen(x, 0, 0), "1");
        Check.due("seen(0, 1) after back", Check.seen(x, 0, 1), "3");
        Check.due("record(0) after back", x.record(0), 4);
        Check.due("look(0) after back", x.look(0), 1);
        x.run(3);
        Check.due("seen(0, 0) then", Check.seen(x, 0, 0), "2");
        Check.due("seen(0, 1) then", Check.seen(x, 0, 1), "3");
        Check.due("record(0) then", x.record(0), 34);
        x.back(4);
        x.set(3, 0, 1);
        x.run(1);
        Check.due("the latest one may be earlier in time", Check.seen(x, 0, 1), "1");
    }

    private static void lineAndMacrosStay() {
        WireField x = busy();
        x.run(5);
        Check.macro(x, "3F", 0);
        Check.write(x, "@a");
        Check.due("back(5)", x.back(5), true);
        Check.due("look(7)", x.look(7), 2);
        Check.due("draw", Check.drawLine(x, 0, 20, 1), "4");
    }
}
