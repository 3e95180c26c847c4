/** The boundary sentences of the promises 2 to 5 (type, draw, macro, wipe), and that what is refused changes nothing. */
public final class EdgeLineCallsTest {
    private static final int LOW = Integer.MIN_VALUE;
    private static final int HIGH = Integer.MAX_VALUE;

    public static void main(String[] args) {
        typeRefusesCharacters();
        typeRefusesTheSixtyFirst();
        typeTakesAgainWhenThereIsRoom();
        drawTakesTheLastCellsAndDirections();
        drawThrowsWithoutSuchCellOrDirection();
        drawTakesAnEmptyLine();
        drawThrowsByItsLine();
        drawThrowsByMacrosThatAreNotThere();
        drawThrowsBeyondTheField();
        drawThrowsByTooManyOrders();
        drawThrowsInTheOrderOfTheDocument();
        drawKeepsTheLineIfItThrows();
        macroTakesTheFirstAndTheLast();
        macroThrowsWithoutSuchMacro();
        macroThrowsByItsLine();
        macroThrowsByWhatItCanNotHold();
        macroAsksNotWhetherThoseAreThere();
        macroReplacesTheOneThere();
        wipeOfAnEmptyAndAFullLine();
        Check.end();
    }

    /** "false (refused) if it is not 33 .. 126" */
    private static void typeRefusesCharacters() {
        char[] refused = {0, 1, 10, 31, 32, 127, 128, 159, 160, 255, 256, 256 + 33, 256 + 'F', 32767, 32768, 65535};
        for (char c : refused) {
            String call = "type((char) " + (int) c + ")";
            Twins.changesNothing(call, Twins::busy, x -> Boolean.toString(x.type(c)), "false");
        }
        for (int code = 33; code <= 126; code++) {
            WireField x = new WireField();
            Check.due("type((char) " + code + ")", x.type((char) code), true);
            Check.due("look(7)", x.look(7), 1);
        }
    }

    /** "or sixty are there" */
    private static void typeRefusesTheSixtyFirst() {
        char[] refused = {'F', '!', '~', ' ', 127};
        for (char c : refused) {
            String call = "type((char) " + (int) c + ") when sixty are there";
            Twins.changesNothing(call, Twins::full, x -> Boolean.toString(x.type(c)), "false");
        }
        WireField x = new WireField();
        for (int i = 1; i <= 62; i++) {
            Check.due("type number " + i, x.type('~'), i <= 60);
            Check.due("look(7)", x.look(7), i <= 60 ? i : 60);
        }
    }

    private static void typeTakesAgainWhenThereIsRoom() {
        WireField x = Twins.full();
        Check.drawLine(x, 3, 6, 1);
        Check.due("type after draw", x.type('F'), true);
        WireField y = Twins.full();
        Check.macroOfLine(y, 2);
        Check.due("type after macro", y.type('F'), true);
        WireField z = Twins.full();
        z.wipe();
        Check.due("type after wipe", z.type('F'), true);
        Check.due("look(7)", z.look(7), 1);
    }

    private static void drawTakesTheLastCellsAndDirections() {
        int[] columns = {0, 1, 30, 31};
        int[] rows = {0, 1, 22, 23};
        for (int column : columns) {
            for (int row : rows) {
                for (int direction = 0; direction <= 3; direction++) {
                    WireField x = new WireField();
                    Check.due("draw(" + column + ", " + row + ", " + direction + ")",
                            Check.draw(x, "E", column, row, direction), "1");
                    Check.due("its cell", x.cell(column, row), 1);
                }
            }
        }
    }

    /** "IndexOutOfBoundsException: there is no such cell or direction" */
    private static void drawThrowsWithoutSuchCellOrDirection() {
        int[][] wrong = {{-1, 5, 1}, {32, 5, 1}, {5, -1, 1}, {5, 24, 1}, {5, 5, -1}, {5, 5, 4}, {LOW, 5, 1}, {HIGH, 5, 1},
            {5, LOW, 1}, {5, HIGH, 1}, {5, 5, LOW}, {5, 5, HIGH}, {24, 31, 1}, {5, 5, 5}, {-1, -1, -1}, {32, 24, 4}};
        for (int[] w : wrong) {
            String call = "draw(" + w[0] + ", " + w[1] + ", " + w[2] + ")";
            Twins.changesNothing(call, Twins::busy, x -> Check.drawLine(x, w[0], w[1], w[2]), Check.INDEX);
            Check.due(call + " of an empty line", Check.drawLine(new WireField(), w[0], w[1], w[2]), Check.INDEX);
        }
    }

    /** "the line is no row of ORDERS (an empty one is)" */
    private static void drawTakesAnEmptyLine() {
        WireField x = new WireField();
        Check.due("draw of an empty line", Check.drawLine(x, 31, 23, 3), "0");
        Check.due("cells", x.look(1) + x.look(2) + x.look(3), 0);
    }

    private static void drawThrows(String text, String due) {
        Twins.changesNothing("draw of " + text, () -> Twins.busy(text), x -> Check.drawLine(x, 12, 4, 1), due);
    }

    /** "IllegalArgumentException: the line is no row of ORDERS" */
    private static void drawThrowsByItsLine() {
        String[] wrong = {"X", "FFX", "3", "FF3", "100F", "FE(", "F(F", "F[F", "F)", "F]", "(F]", "[F)", "F@", "F@e",
            "((((F))))", "[[[[F]]]]", "3)", "f", "FF FF".replace(' ', '!'), "FWE~"};
        for (String text : wrong) {
            drawThrows(text, Check.ARGUMENT);
        }
    }

    /** "or a macro is not there that it holds, or one of these holds": c is not there, d holds it. */
    private static void drawThrowsByMacrosThatAreNotThere() {
        String[] wrong = {"@c", "FE@c", "0@c", "F(@c)", "@a@c", "@d", "FE@d", "00@d", "[@d]", "@a@b@d", "0(0[@d])"};
        for (String text : wrong) {
            drawThrows(text, Check.ARGUMENT);
        }
        WireField x = Twins.busy("@a@b");
        Check.due("a and b are there", Check.drawLine(x, 3, 6, 1), "14");
        Check.macro(x, "R", 2);
        Check.due("c and d when c is there", Check.draw(x, "@c@d", 3, 6, 1), "6");
        whatIsThreeDeepIsAsked();
    }

    private static void whatIsThreeDeepIsAsked() {
        for (int missing = 0; missing < 4; missing++) {
            WireField x = new WireField();
            String[] texts = {"R", "0@a", "0@b", "0@c"};
            for (int letter = 0; letter < 4; letter++) {
                if (letter != missing) {
                    Check.macro(x, texts[letter], letter);
                }
            }
            for (int letter = 0; letter < 4; letter++) {
                Check.due("draw of macro " + letter + " without " + missing,
                        Check.draw(x, "@" + (char) ('a' + letter), 5, 5, 0),
                        letter >= missing ? Check.ARGUMENT : letter == 0 ? "2" : "1");
            }
        }
    }

    /** "UnsupportedOperationException: it leads beyond the field", also where much was drawn before that. */
    private static void drawThrowsBeyondTheField() {
        String[] wrong = {"99F", "20F", "13B", "U20F", "EWFE<20F", "(20F)", "[20F]", "5(F)99[F]", "LFFFFF", "R20F",
            "@a@a99F", "10[@bL]", "LF<", "5<", "U5<", "W(EF(FE[99B]))"};
        for (String text : wrong) {
            drawThrows(text, Check.UNSUPPORTED);
        }
    }

    /** "or does too many orders" */
    private static void drawThrowsByTooManyOrders() {
        String[] wrong = {"4[98R]5R", "FE4[98R]R3R", "99(FEWR)", "99[99[99[]]]", "99(@a)", "99(@b)", "FEW99(99())"};
        for (String text : wrong) {
            drawThrows(text, Check.UNSUPPORTED);
        }
    }

    /** "IndexOutOfBoundsException ... else IllegalArgumentException ... else UnsupportedOperationException" */
    private static void drawThrowsInTheOrderOfTheDocument() {
        String[] lines = {"X", "@c", "@d", "99FX", "99F@c", "99[99R](", "99F", "99[99R]"};
        for (String line : lines) {
            Check.due("no such cell and " + line, Check.drawLine(Twins.busy(line), 32, 0, 0), Check.INDEX);
            Check.due("no such direction and " + line, Check.drawLine(Twins.busy(line), 0, 0, 4), Check.INDEX);
        }
        Check.due("a way out behind what is no order", Check.drawLine(Twins.busy("X99F"), 0, 0, 0), Check.ARGUMENT);
        Check.due("a way out before what is no order", Check.drawLine(Twins.busy("99FX"), 0, 0, 0), Check.ARGUMENT);
        Check.due("a way out before c", Check.drawLine(Twins.busy("99F@c"), 0, 0, 0), Check.ARGUMENT);
        Check.due("a way out before d", Check.drawLine(Twins.busy("99F@d"), 0, 0, 0), Check.ARGUMENT);
        Check.due("too many orders before c", Check.drawLine(Twins.busy("99[99R]@c"), 0, 0, 0), Check.ARGUMENT);
    }

    /** "(The line stays if it throws.)", and "the line is empty then" if it does not. */
    private static void drawKeepsTheLineIfItThrows() {
        WireField x = new WireField();
        Check.write(x, "5F");
        Check.due("no such cell", Check.drawLine(x, 32, 23, 1), Check.INDEX);
        Check.due("beyond the field", Check.drawLine(x, 27, 23, 1), Check.UNSUPPORTED);
        Check.due("look(7)", x.look(7), 2);
        Check.due("one cell to the left", Check.drawLine(x, 26, 23, 1), "5");
        Check.due("look(7) then", x.look(7), 0);
        Check.due("cells", x.look(3), 5);
        Check.due("the empty line", Check.drawLine(x, 27, 23, 1), "0");
        Check.write(x, "5");
        Check.due("a number alone", Check.drawLine(x, 0, 0, 1), Check.ARGUMENT);
        Check.write(x, "F");
        Check.due("what was typed goes on behind it", Check.drawLine(x, 0, 0, 1), "5");
    }

    private static void macroTakesTheFirstAndTheLast() {
        for (int letter = -1; letter <= 4; letter++) {
            WireField x = new WireField();
            boolean taken = letter >= 0 && letter <= 3;
            Check.due("macro(" + letter + ")", Check.macro(x, "F", letter), taken ? Check.NOTHING : Check.INDEX);
            Check.due("look(7) then", x.look(7), taken ? 0 : 1);
        }
    }

    /** "IndexOutOfBoundsException: there is no such macro; else IllegalArgumentException" */
    private static void macroThrowsWithoutSuchMacro() {
        int[] wrong = {-1, 4, 5, -4, 'a', 'd', 256, LOW, HIGH};
        for (int letter : wrong) {
            String call = "macro(" + letter + ")";
            Twins.changesNothing(call, Twins::busy, x -> Check.macroOfLine(x, letter), Check.INDEX);
            Check.due(call + " of what is no row of ORDERS", Check.macroOfLine(Twins.busy("X"), letter), Check.INDEX);
            Check.due(call + " of an empty line", Check.macroOfLine(new WireField(), letter), Check.INDEX);
        }
    }

    /** "IllegalArgumentException: it is no row of ORDERS" */
    private static void macroThrowsByItsLine() {
        String[] wrong = {"X", "F3", "100F", "F(", "F]", "(F]", "@", "@e", "((((F))))", "3)"};
        for (String text : wrong) {
            for (int letter = 0; letter < 4; letter += 3) {
                int to = letter;
                Twins.changesNothing("macro(" + to + ") of " + text, () -> Twins.busy(text),
                        x -> Check.macroOfLine(x, to), Check.ARGUMENT);
            }
        }
    }

    /** "or holds a macro that it can't" */
    private static void macroThrowsByWhatItCanNotHold() {
        for (int letter = 0; letter < 4; letter++) {
            int to = letter;
            for (char held = (char) ('a' + letter); held <= 'd'; held++) {
                String text = "F(@" + held + ")";
                Twins.changesNothing("macro(" + to + ") of " + text, () -> Twins.busy(text),
                        x -> Check.macroOfLine(x, to), Check.ARGUMENT);
            }
        }
    }

    /** "(whether those are there is not asked)", nor whether it leads beyond the field or does too many orders. */
    private static void macroAsksNotWhetherThoseAreThere() {
        String[] texts = {"", "@a", "@a@b", "@a@b@c"};
        for (int letter = 3; letter >= 0; letter--) {
            WireField x = new WireField();
            Check.due("macro(" + letter + ") of " + texts[letter], Check.macro(x, texts[letter], letter), Check.NOTHING);
            Check.due("look(7)", x.look(7), 0);
            Check.due("macro of 99F", Check.macro(x, "99F", letter), Check.NOTHING);
            Check.due("macro of 99[99R]", Check.macro(x, "99[99R]", letter), Check.NOTHING);
        }
    }

    /** "in the place of the one there": the longest one by the empty one, and the other way round. */
    private static void macroReplacesTheOneThere() {
        for (int letter = 0; letter < 4; letter++) {
            WireField x = new WireField();
            String call = "@" + (char) ('a' + letter);
            Check.macro(x, "R".repeat(60), letter);
            Check.due("the longest one", Check.draw(x, call, 5, 5, 0), "61");
            Check.macro(x, "", letter);
            Check.due("the empty one", Check.draw(x, call, 5, 5, 0), "1");
            Check.macro(x, "R".repeat(60), letter);
            Check.due("the longest one again", Check.draw(x, call, 5, 5, 0), "61");
            Check.macro(x, "F", letter);
            Check.due("a short one", Check.draw(x, call, 5, 5, 0), "2");
            Check.due("its cell", x.cell(5, 4), 3);
            Check.due("no other", x.look(3), 1);
        }
    }

    /** "Makes the line empty.": also one that is empty, full, or no row of ORDERS; and nothing else changes. */
    private static void wipeOfAnEmptyAndAFullLine() {
        Twins.changesNothing("wipe of an empty line", () -> Twins.busy(""), EdgeLineCallsTest::wipe, "0");
        String[] lines = {"F", "X", "((", "R".repeat(60)};
        for (String line : lines) {
            WireField x = Twins.busy(line);
            Check.due("wipe of " + line, wipe(x), "0");
            Check.due("draw after it", Check.drawLine(x, 0, 0, 0), "0");
            Twins.changesNothing("type of a line and wipe", () -> Twins.busy(""), y -> {
                Check.write(y, line);
                return wipe(y);
            }, "0");
        }
    }

    private static String wipe(WireField x) {
        x.wipe();
        return Integer.toString(x.look(7));
    }
}
