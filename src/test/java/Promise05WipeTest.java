/** Promise 5: wipe. */
public final class Promise05WipeTest {
    public static void main(String[] args) {
        WireField x = new WireField();
        x.wipe();
        Check.due("look(7) of an empty line wiped", x.look(7), 0);
        Check.write(x, "F(RX");
        Check.due("look(7) of a line", x.look(7), 4);
        x.wipe();
        Check.due("look(7) of a line wiped", x.look(7), 0);
        Check.due("draw of a line wiped", Check.drawLine(x, 5, 5, 0), "0");
        Check.due("cells", x.look(3), 0);
        for (int i = 0; i < 60; i++) {
            x.type('R');
        }
        Check.due("type when full", x.type('R'), false);
        x.wipe();
        Check.due("type after wipe", x.type('F'), true);
        Check.due("draw after wipe", Check.drawLine(x, 5, 5, 0), "1");
        nothingElseChanges();
        Check.end();
    }

    private static void nothingElseChanges() {
        Twins.changesNothing("type and wipe", () -> Twins.busy(""), x -> {
            x.type('F');
            x.wipe();
            return Integer.toString(x.look(7));
        }, "0");
    }
}
