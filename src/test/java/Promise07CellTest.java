/** Promise 7: cell. */
public final class Promise07CellTest {
    public static void main(String[] args) {
        for (int row = -3; row < 27; row++) {
            WireField x = new WireField();
            for (int column = 0; column < 32; column++) {
                x.set(column, row, (column * 7 + row * 5) % 4);
            }
            for (int column = -3; column < 35; column++) {
                boolean isThere = column >= 0 && column < 32 && row >= 0 && row < 24;
                Check.due("cell(" + column + ", " + row + ")", x.cell(column, row),
                        isThere ? (column * 7 + row * 5) % 4 : -1);
            }
        }
        WireField x = new WireField();
        int[] far = {Integer.MIN_VALUE, Integer.MAX_VALUE, -32, 64, 1 << 16};
        for (int f : far) {
            Check.due("cell(" + f + ", 0)", x.cell(f, 0), -1);
            Check.due("cell(0, " + f + ")", x.cell(0, f), -1);
        }
        Twins.changesNothing("cell(0, 0)", Twins::busy, y -> Integer.toString(y.cell(0, 0)), "0");
        Twins.changesNothing("cell(-1, 1)", Twins::busy, y -> Integer.toString(y.cell(-1, 1)), "-1");
        Check.end();
    }
}
