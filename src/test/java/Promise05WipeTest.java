/** Promise 5: wipe. */
public final class Promise05WipeTest {
    public static void main(String[] args) {
        WireField x = new WireField();
        x.wipe();
        Check.due("look(7) of an empty line wiped", x.look(7), 0);
        Check.write(x, "F(RX");
        Check.due("look(7) of a line", x.look(7), 4);
        x.wipe();
        Check.due("look(7) of a line wiped", x.look(7), 0);
        Check.due("draw of a line wiped", Check.drawLine(x, 5, 5, 0), "0");
        Check.due("cells", x.look(3), 0);
        for (int i = 0; i < 60; i++) {
            x.type('R');
        }
        Check.due("type when full", x.type('R'), false);
        x.wipe();
        Check.due("type after wipe", x.type('F'), true);
        Check.due("draw after wipe", Check.drawLine(x, 5, 5, 0), "1");
        nothingElseChanges();
        Check.end();
    }

    private static void nothingElseChanges() {
        WireField x = new WireField();
        Check.macro(x, "9FE", 0);
        Check.draw(x, "@a", 0, 0, 1);
        x.source(2, 0, 3L, 7);
        x.probe(4, 0);
        x.run(9);
        String before = Check.state(x);
        x.wipe();
        Check.due("state after wipe", Check.state(x), before);
        Check.write(x, "F");
        x.wipe();
        Check.due("state after type and wipe", Check.state(x), before);
        Check.due("the macro is still there", Check.draw(x, "@a", 0, 5, 1), "11");
    }
}
