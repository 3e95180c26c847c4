/** Promise 2: type. */
public final class Promise02TypeTest {
    public static void main(String[] args) {
        onlyCharactersFrom33To126();
        sixtyAtMost();
        appendsInOrder();
        Check.end();
    }

    private static void onlyCharactersFrom33To126() {
        for (int code = 0; code <= 65535; code++) {
            WireField x = new WireField();
            boolean want = code >= 33 && code <= 126;
            Check.due("type((char) " + code + ")", x.type((char) code), want);
            Check.due("look(7) after type((char) " + code + ")", x.look(7), want ? 1 : 0);
        }
    }

    private static void sixtyAtMost() {
        WireField x = new WireField();
        for (int i = 1; i <= 60; i++) {
            Check.due("type number " + i, x.type('R'), true);
            Check.due("look(7)", x.look(7), i);
        }
        Check.due("type number 61", x.type('R'), false);
        Check.due("type of a wrong one when full", x.type(' '), false);
        Check.due("look(7) when full", x.look(7), 60);
        Check.due("draw of sixty", Check.drawLine(x, 0, 0, 0), "60");
        Check.due("look(7) after draw", x.look(7), 0);
        Check.due("type after draw", x.type('R'), true);
    }

    private static void appendsInOrder() {
        WireField x = new WireField();
        Check.due("draw", Check.draw(x, "2FR3F", 0, 0, 1), "6");
        Check.due("picture", Check.picture(x, 0, 0, 4, 5), ".##./..#./..#./..#./....");
    }
}
