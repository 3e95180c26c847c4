/** Promise 1: a new object. */
public final class Promise01NewObjectTest {
    public static void main(String[] args) {
        everythingIsEmpty();
        noMacroIsThere();
        objectsAreApart();
        Check.end();
    }

    private static void everythingIsEmpty() {
        for (int row = 0; row < 24; row++) {
            WireField x = new WireField();
            for (int column = 0; column < 32; column++) {
                Check.due("new cell(" + column + ", " + row + ")", x.cell(column, row), 0);
            }
        }
        WireField x = new WireField();
        for (int what = 0; what <= 7; what++) {
            Check.due("new look(" + what + ")", x.look(what), 0);
        }
        Check.due("new period()", x.period(), 0);
        Check.due("new back(1)", x.back(1), false);
        Check.due("new record(0)", x.record(0), 0);
        Check.due("new seen(0, 0)", Check.seen(x, 0, 0), Check.INDEX);
    }

    private static void noMacroIsThere() {
        WireField x = new WireField();
        for (char letter = 'a'; letter <= 'd'; letter++) {
            Check.due("new draw of @" + letter, Check.draw(x, "@" + letter, 0, 0, 0), Check.ARGUMENT);
        }
    }

    private static void objectsAreApart() {
        WireField first = new WireField();
        Check.due("draw on the first", Check.draw(first, "3F", 0, 0, 1), "3");
        first.source(1, 0, 1L, 1);
        first.probe(2, 0);
        first.run(2);
        first.type('F');
        Check.macro(first, "F", 0);
        first.type('F');
        WireField second = new WireField();
        for (int what = 0; what <= 7; what++) {
            Check.due("second look(" + what + ")", second.look(what), 0);
        }
        Check.due("second draw of @a", Check.draw(second, "@a", 0, 0, 1), Check.ARGUMENT);
    }
}
