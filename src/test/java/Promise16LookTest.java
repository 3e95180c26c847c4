/** Promise 16: look. */
public final class Promise16LookTest {
    public static void main(String[] args) {
        eachWhat();
        anotherWhat();
        cellsAreCounted();
        Check.end();
    }

    private static void eachWhat() {
        WireField x = new WireField();
        Check.draw(x, "9FE", 0, 5, 1);
        x.source(2, 5, 0L, 3);
        x.source(3, 5, 0L, 3);
        x.probe(1, 1);
        x.probe(1, 2);
        x.probe(1, 3);
        Check.write(x, "FRFRF");
        Check.due("time", x.look(0), 0);
        Check.due("HEADs", x.look(1), 1);
        Check.due("TAILs", x.look(2), 1);
        Check.due("WIREs", x.look(3), 7);
        Check.due("generations", x.look(4), 0);
        Check.due("sources", x.look(5), 2);
        Check.due("probes", x.look(6), 3);
        Check.due("characters", x.look(7), 5);
        x.run(20);
        Check.due("time then", x.look(0), 20);
        Check.due("HEADs then", x.look(1), 0);
        Check.due("TAILs then", x.look(2), 0);
        Check.due("WIREs then", x.look(3), 9);
        Check.due("generations then", x.look(4), 16);
        x.back(16);
        Check.due("time taken back", x.look(0), 4);
        Check.due("generations taken back", x.look(4), 0);
        Check.due("sources stay", x.look(5), 2);
        Check.due("probes stay", x.look(6), 3);
        Check.due("characters stay", x.look(7), 5);
    }

    private static void anotherWhat() {
        WireField x = new WireField();
        int[] wrong = {-1, -2, 8, 9, 100, Integer.MIN_VALUE, Integer.MAX_VALUE};
        for (int what : wrong) {
            Check.due("look(" + what + ")", x.look(what), -1);
        }
    }

    private static void cellsAreCounted() {
        for (int row = 0; row < 24; row++) {
            WireField x = new WireField();
            int[] due = new int[4];
            for (int column = 0; column < 32; column++) {
                int value = (column * column + row * 3) % 4;
                x.set(column, row, value);
                due[value]++;
                for (int what = 1; what <= 3; what++) {
                    Check.due("look(" + what + ")", x.look(what), due[what]);
                }
            }
        }
    }
}
