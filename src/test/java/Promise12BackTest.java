/** Promise 12: back. */
public final class Promise12BackTest {
    public static void main(String[] args) {
        toEachOfTheLatestSixteen();
        wrongNumbers();
        stepByStep();
        sourcesStandAsTheyWere();
        theFieldIsWithoutWhatSourcesDidThen();
        aSourceAddedSinceBeginsAnew();
        probesKeepWhatTheyCounted();
        lineAndMacrosStay();
        Check.end();
    }

    private static WireField busy() {
        WireField x = new WireField();
        Check.draw(x, "12FR5FR12FR4FE", 3, 3, 1);
        Check.draw(x, "<6F", 20, 15, 3);
        x.source(19, 15, 37L, 7);
        x.source(6, 3, 1L, 13);
        x.probe(8, 3);
        return x;
    }

    private static void toEachOfTheLatestSixteen() {
        for (int length = 1; length <= 40; length++) {
            String[] fields = new String[length + 1];
            WireField tracked = busy();
            fields[0] = Check.wholeField(tracked);
            for (int i = 1; i <= length; i++) {
                tracked.run(1);
                fields[i] = Check.wholeField(tracked);
            }
            for (int n = 1; n <= 18; n++) {
                WireField x = busy();
                x.run(length);
                int kept = Math.min(length, 16);
                Check.due("look(4) after " + length, x.look(4), kept);
                Check.due("back(" + n + ") after " + length, x.back(n), n <= kept);
                int time = n <= kept ? length - n : length;
                Check.due("look(0) then", x.look(0), time);
                Check.due("look(4) then", x.look(4), n <= kept ? kept - n : kept);
                Check.due("the field then", Check.wholeField(x), fields[time]);
                x.run(length - time > 0 ? length - time : 1);
                if (time < length) {
                    Check.due("the field when run again", Check.wholeField(x), fields[length]);
                }
            }
        }
    }

    private static void wrongNumbers() {
        WireField x = busy();
        Check.due("back(1) at the beginning", x.back(1), false);
        x.run(10);
        String before = Check.state(x);
        int[] wrong = {0, -1, 11, 16, 17, Integer.MIN_VALUE, Integer.MAX_VALUE};
        for (int n : wrong) {
            Check.due("back(" + n + ")", x.back(n), false);
            Check.due("state after back(" + n + ")", Check.state(x), before);
        }
        x.run(50);
        Check.due("back(17) after 60", x.back(17), false);
        Check.due("back(16) after 60", x.back(16), true);
        Check.due("back(1) after that", x.back(1), false);
        Check.due("look(0) after that", x.look(0), 44);
        x.run(1);
        Check.due("look(4) after one more", x.look(4), 1);
        Check.due("back(2) after one more", x.back(2), false);
        Check.due("back(1) after one more", x.back(1), true);
    }

    private static void stepByStep() {
        WireField x = busy();
        String[] fields = new String[31];
        for (int i = 0; i <= 30; i++) {
            fields[i] = Check.wholeField(x);
            x.run(1);
        }
        for (int i = 30; i >= 15; i--) {
            Check.due("back(1) to " + i, x.back(1), true);
            Check.due("the field at " + i, Check.wholeField(x), fields[i]);
            Check.due("look(0) at " + i, x.look(0), i);
            Check.due("look(4) at " + i, x.look(4), i - 15);
        }
        Check.due("back(1) to 14", x.back(1), false);
    }

    private static void sourcesStandAsTheyWere() {
        for (int n = 1; n <= 16; n++) {
            WireField x = new WireField();
            x.set(5, 5, 3);
            x.source(5, 5, 1L, 10);
            x.run(23);
            x.back(n);
            // The bit acts before the generations 1, 11, 21, 31: the cell is TAIL behind each of them.
            for (int time = 24 - n; time <= 32; time++) {
                x.run(1);
                Check.due("cell at " + time + " after back(" + n + ")", x.cell(5, 5), time % 10 == 1 ? 2 : 3);
            }
        }
    }

    private static void theFieldIsWithoutWhatSourcesDidThen() {
        WireField x = new WireField();
        x.set(5, 5, 3);
        x.source(5, 5, 1L, 1);
        x.run(1);
        Check.due("the cell behind a generation", x.cell(5, 5), 2);
        Check.due("back(1)", x.back(1), true);
        Check.due("the cell taken back", x.cell(5, 5), 3);
        Check.due("look(1)", x.look(1), 0);
    }

    private static void aSourceAddedSinceBeginsAnew() {
        WireField x = new WireField();
        x.set(5, 5, 3);
        x.run(4);
        x.source(5, 5, 1L, 8);
        x.run(3);
        Check.due("back(5)", x.back(5), true);
        Check.due("look(5)", x.look(5), 1);
        Check.due("the cell", x.cell(5, 5), 3);
        x.run(1);
        Check.due("the first bit acts", x.cell(5, 5), 2);
        x.run(7);
        Check.due("then the others", x.cell(5, 5), 3);
        x.run(1);
        Check.due("then the first one", x.cell(5, 5), 2);
    }

    private static void probesKeepWhatTheyCounted() {
        WireField x = new WireField();
        Check.paint(x, 0, 0, "TH####");
        x.probe(4, 0);
        x.run(5);
        Check.due("record(0)", x.record(0), 4);
        Check.due("back(4)", x.back(4), true);
        Check.due("seen(0, 0) after back", Check.seen(x, 0, 0), "1");
        Check.due("seen(0, 1) after back", Check.seen(x, 0, 1), "3");
        Check.due("record(0) after back", x.record(0), 4);
        Check.due("look(0) after back", x.look(0), 1);
        x.run(3);
        Check.due("seen(0, 0) then", Check.seen(x, 0, 0), "2");
        Check.due("seen(0, 1) then", Check.seen(x, 0, 1), "3");
        Check.due("record(0) then", x.record(0), 34);
        x.back(4);
        x.set(3, 0, 1);
        x.run(1);
        Check.due("the latest one may be earlier in time", Check.seen(x, 0, 1), "1");
    }

    private static void lineAndMacrosStay() {
        WireField x = busy();
        x.run(5);
        Check.macro(x, "3F", 0);
        Check.write(x, "@a");
        Check.due("back(5)", x.back(5), true);
        Check.due("look(7)", x.look(7), 2);
        Check.due("draw", Check.drawLine(x, 0, 20, 1), "4");
    }
}
