/** Promise 3: draw. */
public final class Promise03DrawTest {
    public static void main(String[] args) {
        steps();
        turns();
        penUpAndDown();
        electrons();
        emptying();
        numbers();
        brackets();
        diodes();
        macros();
        macrosThatAreMissing();
        noSuchCellOrDirection();
        noRowOfOrders();
        beyondTheField();
        tooManyOrders();
        whichExceptionComesFirst();
        whatThrowsChangesNothing();
        historyIsForgotten();
        Check.end();
    }

    /** Draws on a new object from a cell in the middle and compares the 9 x 9 cells round it. */
    private static void shows(String text, int direction, String done, String... rows) {
        WireField x = new WireField();
        Check.due("draw of " + text, Check.draw(x, text, 10, 10, direction), done);
        Check.due("picture of " + text + " in direction " + direction,
                Check.picture(x, 6, 6, 9, 9), String.join("/", rows));
        Check.due("look(7) after " + text, x.look(7), 0);
    }

    private static void steps() {
        shows("", 0, "0", ".........", ".........", ".........", ".........", ".........",
                ".........", ".........", ".........", ".........");
        shows("FF", 0, "2", ".........", ".........", "....#....", "....#....", ".........",
                ".........", ".........", ".........", ".........");
        shows("FF", 1, "2", ".........", ".........", ".........", ".........", ".....##..",
                ".........", ".........", ".........", ".........");
        shows("FF", 2, "2", ".........", ".........", ".........", ".........", ".........",
                "....#....", "....#....", ".........", ".........");
        shows("FF", 3, "2", ".........", ".........", ".........", ".........", "..##.....",
                ".........", ".........", ".........", ".........");
        shows("BBF", 1, "3", ".........", ".........", ".........", ".........", "...#.....",
                ".........", ".........", ".........", ".........");
        shows("BBRF", 0, "4", ".........", ".........", ".........", ".........", ".........",
                ".........", ".....#...", ".........", ".........");
    }

    private static void turns() {
        shows("FRFRFFRFF", 0, "9", ".........", ".........", ".........", "....##...", ".....#...",
                "...###...", ".........", ".........", ".........");
        shows("FLFLFFLFF", 0, "9", ".........", ".........", ".........", "...##....", "...#.....",
                "...###...", ".........", ".........", ".........");
        shows("RRRRFLLLLF", 1, "10", ".........", ".........", ".........", ".........", ".....##..",
                ".........", ".........", ".........", ".........");
    }

    private static void penUpAndDown() {
        shows("FUFFDF", 1, "6", ".........", ".........", ".........", ".........", ".....#..#",
                ".........", ".........", ".........", ".........");
        shows("UFEFW", 1, "5", ".........", ".........", ".........", ".........", ".....H...",
                ".........", ".........", ".........", ".........");
        WireField x = new WireField();
        Check.due("draw that leaves the pen up", Check.draw(x, "UF", 0, 0, 1), "2");
        Check.due("a new drawing begins with the pen down", Check.draw(x, "F", 0, 0, 1), "1");
        Check.due("cell(1, 0)", x.cell(1, 0), 3);
    }

    private static void electrons() {
        shows("FFE", 1, "3", ".........", ".........", ".........", ".........", ".....TH..",
                ".........", ".........", ".........", ".........");
        shows("E", 1, "1", ".........", ".........", ".........", ".........", "....H....",
                ".........", ".........", ".........", ".........");
        shows("FFFRE", 1, "5", ".........", ".........", ".........", ".........", ".....##H.",
                ".........", ".........", ".........", ".........");
        shows("FRRFRRE", 1, "7", ".........", ".........", ".........", ".........", "....H#...",
                ".........", ".........", ".........", ".........");
        shows("FEFE", 1, "4", ".........", ".........", ".........", ".........", ".....HH..",
                ".........", ".........", ".........", ".........");
        shows("FFEFFE", 1, "6", ".........", ".........", ".........", ".........", ".....THTH",
                ".........", ".........", ".........", ".........");
        shows("FFEBF", 1, "5", ".........", ".........", ".........", ".........", ".....T#..",
                ".........", ".........", ".........", ".........");
        WireField x = new WireField();
        Check.due("an electron at the edge", Check.draw(x, "E", 0, 0, 1), "1");
        Check.due("cell(0, 0)", x.cell(0, 0), 1);
        for (int direction = 0; direction < 4; direction++) {
            WireField y = new WireField();
            y.set(5, 4, 3);
            y.set(6, 5, 3);
            y.set(5, 6, 3);
            y.set(4, 5, 3);
            Check.due("an electron in the middle", Check.draw(y, "E", 5, 5, direction), "1");
            String[] due = {".#./#H#/.T.", ".#./TH#/.#.", ".T./#H#/.#.", ".#./#HT/.#."};
            Check.due("the tail behind direction " + direction, Check.picture(y, 4, 4, 3, 3), due[direction]);
        }
    }

    private static void emptying() {
        shows("FFFBW", 1, "5", ".........", ".........", ".........", ".........", ".....#.#.",
                ".........", ".........", ".........", ".........");
        shows("FFEWBW", 1, "6", ".........", ".........", ".........", ".........", ".........",
                ".........", ".........", ".........", ".........");
    }

    private static void numbers() {
        shows("3F", 1, "3", ".........", ".........", ".........", ".........", ".....###.",
                ".........", ".........", ".........", ".........");
        shows("03F", 1, "3", ".........", ".........", ".........", ".........", ".....###.",
                ".........", ".........", ".........", ".........");
        shows("0F00F1F", 1, "1", ".........", ".........", ".........", ".........", ".....#...",
                ".........", ".........", ".........", ".........");
        shows("2R2F", 1, "4", ".........", ".........", ".........", ".........", "..##.....",
                ".........", ".........", ".........", ".........");
        shows("0(FF)0[FF]0<F", 1, "1", ".........", ".........", ".........", ".........", ".....#...",
                ".........", ".........", ".........", ".........");
        WireField x = new WireField();
        Check.due("two digits", Check.draw(x, "31F", 0, 0, 1), "31");
        Check.due("look(3)", x.look(3), 31);
        Check.due("two digits of B", Check.draw(x, "23B", 0, 0, 0), "23");
        Check.due("99R", Check.draw(x, "99RF", 1, 1, 1), "100");
        Check.due("cell where 99R leads", x.cell(1, 0), 3);
    }

    private static void brackets() {
        shows("[FRF]F", 1, "5", ".........", ".........", ".........", ".........", ".....#...",
                ".....#...", ".....#...", ".........", ".........");
        shows("(FRF)F", 1, "5", ".........", ".........", ".........", ".........", ".....#...",
                ".....#...", ".........", ".........", ".........");
        shows("(UFRF)FF", 1, "7", ".........", ".........", ".........", ".........", ".....##..",
                ".........", ".........", ".........", ".........");
        shows("[UF]F", 1, "4", ".........", ".........", ".........", ".........", ".........",
                ".........", ".........", ".........", ".........");
        shows("U(DF)FF", 1, "6", ".........", ".........", ".........", ".........", ".....#...",
                ".........", ".........", ".........", ".........");
        shows("4(FFR)", 1, "16", ".........", ".........", ".........", ".........", ".....##..",
                ".........", ".........", ".........", ".........");
        shows("4[FFR]", 1, "16", ".........", ".........", ".........", ".........", "....###..",
                "....#.#..", "....###..", ".........", ".........");
        shows("4[(2F)R]", 0, "20", ".........", ".........", "....#....", "....#....", "..##.##..",
                "....#....", "....#....", ".........", ".........");
        shows("2[F(R[FL2F])]", 1, "18", ".........", ".........", ".........", ".........", ".....##..",
                ".....####", ".........", ".........", ".........");
        shows("()[]3()2[]F", 1, "8", ".........", ".........", ".........", ".........", ".....#...",
                ".........", ".........", ".........", ".........");
        shows("([()])[[()]]((()))F", 1, "10", ".........", ".........", ".........", ".........", ".....#...",
                ".........", ".........", ".........", ".........");
    }

    private static void diodes() {
        shows("<", 0, "1", "....#....", "...###...", "...#.#...", "....#....", ".........",
                ".........", ".........", ".........", ".........");
        shows("<", 1, "1", ".........", ".........", ".........", "......##.", ".....#.##",
                "......##.", ".........", ".........", ".........");
        shows("<", 2, "1", ".........", ".........", ".........", ".........", ".........",
                "....#....", "...#.#...", "...###...", "....#....");
        shows("<", 3, "1", ".........", ".........", ".........", ".##......", "##.#.....",
                ".##......", ".........", ".........", ".........");
        shows("<LF", 1, "3", ".........", ".........", ".........", "......###", ".....#.##",
                "......##.", ".........", ".........", ".........");
        shows("U<D4BF", 1, "8", ".........", ".........", ".........", ".........", ".....#...",
                ".........", ".........", ".........", ".........");
        for (int old = 0; old <= 3; old++) {
            WireField x = new WireField();
            for (int column = 0; column < 7; column++) {
                for (int row = 0; row < 5; row++) {
                    x.set(column, row, old);
                }
            }
            Check.due("diode over old cells", Check.draw(x, "<", 1, 2, 1), "1");
            char o = ".HT#".charAt(old);
            String due = "ooooooo/ooo##oo/oo#o##o/ooo##oo/ooooooo".replace('o', o);
            Check.due("diode over " + old, Check.picture(x, 0, 0, 7, 5), due);
        }
        diodesAtTheEdges();
    }

    private static void diodesAtTheEdges() {
        for (int column = 0; column < 32; column++) {
            for (int row = 0; row < 24; row++) {
                for (int direction = 0; direction < 4; direction++) {
                    boolean across = direction % 2 == 1;
                    int ahead = direction == 0 ? row : direction == 1 ? 31 - column : direction == 2 ? 23 - row : column;
                    int aside = across ? Math.min(row, 23 - row) : Math.min(column, 31 - column);
                    String due = ahead >= 4 && aside >= 1 ? "1" : Check.UNSUPPORTED;
                    WireField x = new WireField();
                    Check.due("diode from " + column + ", " + row + " in direction " + direction,
                            Check.draw(x, "<", column, row, direction), due);
                    Check.due("cells of the diode", x.look(3), due.equals("1") ? 7 : 0);
                    Check.due("diode with the pen up", Check.draw(x, "U<", column, row, direction),
                            due.equals("1") ? "2" : due);
                }
            }
        }
    }

    private static void macros() {
        WireField x = new WireField();
        Check.due("macro a", Check.macro(x, "2FR", 0), Check.NOTHING);
        Check.due("macro b", Check.macro(x, "2@a", 1), Check.NOTHING);
        Check.due("draw with macros", Check.draw(x, "@b(@a)@b", 10, 10, 1), "23");
        Check.due("picture of macros", Check.picture(x, 9, 9, 5, 5), "...../.###./.#.#./.###./.....");
        Check.due("a macro leaves pen and direction", Check.macro(x, "URF", 0), Check.NOTHING);
        Check.due("draw behind it", Check.draw(x, "@aFDF", 20, 10, 0), "7");
        Check.due("picture behind it", Check.picture(x, 19, 9, 6, 3), "....../....#./......");
        Check.due("an empty macro", Check.macro(x, "", 3), Check.NOTHING);
        Check.due("draw of an empty macro", Check.draw(x, "5@d", 0, 0, 0), "5");
        Check.due("a macro is taken as it is now", Check.macro(x, "F", 0), Check.NOTHING);
        Check.due("draw of b with the new a", Check.draw(x, "@b", 0, 20, 1), "5");
        Check.due("picture with the new a", Check.picture(x, 0, 20, 4, 1), ".##.");
        bracketsOfMacrosAreCountedApart();
    }

    private static void bracketsOfMacrosAreCountedApart() {
        WireField x = new WireField();
        Check.due("deep a", Check.macro(x, "[[[F]]]", 0), Check.NOTHING);
        Check.due("deep b", Check.macro(x, "[[[@a]]]", 1), Check.NOTHING);
        Check.due("deep c", Check.macro(x, "[[[@b]]]", 2), Check.NOTHING);
        Check.due("deep d", Check.macro(x, "[[[@c]]]", 3), Check.NOTHING);
        Check.due("deep line", Check.draw(x, "[[[@d]]]", 0, 0, 1), "20");
        Check.due("cell(1, 0)", x.cell(1, 0), 3);
    }

    private static void macrosThatAreMissing() {
        WireField x = new WireField();
        Check.due("macro c", Check.macro(x, "@b", 2), Check.NOTHING);
        Check.due("macro d", Check.macro(x, "0@c", 3), Check.NOTHING);
        Check.due("draw of a missing one", Check.draw(x, "@a", 5, 5, 0), Check.ARGUMENT);
        Check.due("draw of one that holds a missing one", Check.draw(x, "@c", 5, 5, 0), Check.ARGUMENT);
        Check.due("draw of one two deep", Check.draw(x, "F@d", 5, 5, 0), Check.ARGUMENT);
        Check.due("draw of one that is done no time", Check.draw(x, "0(@d)", 5, 5, 0), Check.ARGUMENT);
        Check.due("macro b", Check.macro(x, "@a", 1), Check.NOTHING);
        Check.due("draw of one three deep", Check.draw(x, "@d", 5, 5, 0), Check.ARGUMENT);
        Check.due("macro a", Check.macro(x, "F", 0), Check.NOTHING);
        Check.due("draw of d when all are there", Check.draw(x, "@d", 5, 5, 0), "1");
        Check.due("draw of c when all are there", Check.draw(x, "@c", 5, 5, 0), "4");
        Check.due("cell(5, 4)", x.cell(5, 4), 3);
    }

    private static void noSuchCellOrDirection() {
        int[][] wrong = {{-1, 0, 0}, {32, 0, 0}, {0, -1, 0}, {0, 24, 0}, {0, 0, -1}, {0, 0, 4},
            {Integer.MIN_VALUE, 0, 0}, {Integer.MAX_VALUE, 0, 0}, {0, Integer.MIN_VALUE, 0},
            {0, Integer.MAX_VALUE, 0}, {0, 0, Integer.MIN_VALUE}, {0, 0, Integer.MAX_VALUE}};
        WireField x = new WireField();
        for (int[] w : wrong) {
            Check.due("draw(" + w[0] + ", " + w[1] + ", " + w[2] + ")", Check.drawLine(x, w[0], w[1], w[2]), Check.INDEX);
        }
        int[][] right = {{0, 0, 0}, {31, 0, 1}, {0, 23, 2}, {31, 23, 3}};
        for (int[] r : right) {
            Check.due("draw(" + r[0] + ", " + r[1] + ", " + r[2] + ")", Check.drawLine(x, r[0], r[1], r[2]), "0");
        }
    }

    private static void noRowOfOrders() {
        String[] wrong = {"100F", "000F", "3", "F3", "12", "F12", "X", "f", "FX", "!", "~", ">", "-1F", "3)", "(", "[",
            ")", "]", "(F", "[F", "F)", "F]", "(F]", "[F)", "([F)]", "(3)", "[3]", "(F3)", "@", "@e", "@A", "@`", "@1",
            "F@", "@@a", "3@", "(@)", "((((F))))", "[[[[F]]]]", "([([F])])", "[F[F[F[F]F]F]F]", "F((((", "(((F",
            "3F4", "F.F", "a", "(F))", "[F]]", ")F(", "0X", "0(F"};
        for (String text : wrong) {
            WireField x = new WireField();
            for (int letter = 0; letter < 4; letter++) {
                Check.macro(x, "F", letter);
            }
            Check.due("draw of " + text, Check.draw(x, text, 10, 10, 1), Check.ARGUMENT);
            Check.due("line after draw of " + text, x.look(7), text.length());
            Check.due("cells after draw of " + text, x.look(3), 0);
        }
        WireField x = new WireField();
        for (int code = 33; code <= 126; code++) {
            String text = Character.toString((char) code);
            String due = "FBRLUDEW<".indexOf(code) >= 0 ? "1" : Check.ARGUMENT;
            Check.due("draw of " + text, Check.draw(x, text, 10, 10, 1), due);
        }
    }

    private static void beyondTheField() {
        int[][] corners = {{0, 0}, {31, 0}, {31, 23}, {0, 23}};
        boolean[][] leadsOut = {{true, false, false, true}, {true, true, false, false},
            {false, true, true, false}, {false, false, true, true}};
        for (int i = 0; i < 4; i++) {
            for (int direction = 0; direction < 4; direction++) {
                WireField x = new WireField();
                String at = " at corner " + i + " in direction " + direction;
                Check.due("F" + at, Check.draw(x, "F", corners[i][0], corners[i][1], direction),
                        leadsOut[i][direction] ? Check.UNSUPPORTED : "1");
                Check.due("UF" + at, Check.draw(x, "UF", corners[i][0], corners[i][1], direction),
                        leadsOut[i][direction] ? Check.UNSUPPORTED : "2");
                Check.due("B" + at, Check.draw(x, "B", corners[i][0], corners[i][1], direction),
                        leadsOut[i][(direction + 2) % 4] ? Check.UNSUPPORTED : "1");
            }
        }
        WireField x = new WireField();
        Check.due("31F", Check.draw(x, "31F", 0, 0, 1), "31");
        Check.due("32F", Check.draw(x, "32F", 0, 0, 1), Check.UNSUPPORTED);
        Check.due("23F", Check.draw(x, "23F", 0, 0, 2), "23");
        Check.due("24F", Check.draw(x, "24F", 0, 0, 2), Check.UNSUPPORTED);
        Check.due("out of a branch", Check.draw(x, "(9B)F", 5, 5, 1), Check.UNSUPPORTED);
        Check.due("nothing is done beyond", Check.draw(x, "0FF", 30, 0, 1), "1");
    }

    private static void tooManyOrders() {
        WireField x = new WireField();
        Check.due("400 orders", Check.draw(x, "99R99R99R99RRRRR", 0, 0, 0), "400");
        Check.due("401 orders", Check.draw(x, "99R99R99R99RRRRRR", 0, 0, 0), Check.UNSUPPORTED);
        Check.due("400 with brackets", Check.draw(x, "4[99R]", 0, 0, 0), "400");
        Check.due("401 with brackets", Check.draw(x, "4[99R]()", 0, 0, 0), Check.UNSUPPORTED);
        Check.due("401 with diode", Check.draw(x, "4[99R]<", 10, 10, 0), Check.UNSUPPORTED);
        Check.due("400 with branches", Check.draw(x, "20(19R)", 0, 0, 0), "400");
        Check.due("420 with branches", Check.draw(x, "20(20R)", 0, 0, 0), Check.UNSUPPORTED);
        Check.due("empty brackets count", Check.draw(x, "4[99[]]", 0, 0, 0), "400");
        Check.due("too many empty brackets", Check.draw(x, "99[99[99[]]]", 0, 0, 0), Check.UNSUPPORTED);
        Check.due("what is done no time counts not", Check.draw(x, "4[99R]0F0(F)", 0, 0, 0), "400");
        Check.macro(x, "9R", 0);
        Check.due("400 with macros", Check.draw(x, "40@a", 0, 0, 0), "400");
        Check.due("401 with macros", Check.draw(x, "R40@a", 0, 0, 0), Check.UNSUPPORTED);
        Check.macro(x, "", 0);
        Check.due("empty macros count", Check.draw(x, "4[99@a]", 0, 0, 0), "400");
        Check.due("a new drawing counts from 0 on", Check.draw(x, "R", 0, 0, 0), "1");
    }

    private static void whichExceptionComesFirst() {
        WireField x = new WireField();
        Check.due("wrong cell and wrong line", Check.draw(x, "X", 32, 0, 0), Check.INDEX);
        Check.due("wrong direction and wrong line", Check.draw(x, "X", 0, 0, 4), Check.INDEX);
        Check.due("wrong cell and a way out", Check.draw(x, "F", -1, 0, 0), Check.INDEX);
        Check.due("a way out and a wrong line", Check.draw(x, "FX", 0, 0, 0), Check.ARGUMENT);
        Check.due("a way out and a missing macro", Check.draw(x, "F@a", 0, 0, 0), Check.ARGUMENT);
        Check.due("too many orders and a wrong line", Check.draw(x, "99[99R](", 0, 0, 0), Check.ARGUMENT);
    }

    private static void whatThrowsChangesNothing() {
        String[] wrong = {"FFFFX", "FF<@c", "E5F(RFF"};
        for (String text : wrong) {
            Twins.changesNothing("draw of " + text, () -> Twins.busy(text), x -> Check.drawLine(x, 12, 4, 1), Check.ARGUMENT);
        }
        String[] tooFar = {"3FW99F", "99[99R]"};
        for (String text : tooFar) {
            Twins.changesNothing("draw of " + text, () -> Twins.busy(text), x -> Check.drawLine(x, 12, 4, 1),
                    Check.UNSUPPORTED);
        }
        Twins.changesNothing("draw from a wrong cell", Twins::busy, x -> Check.drawLine(x, 32, 10, 1), Check.INDEX);
    }

    private static void historyIsForgotten() {
        String[] texts = {"F", "", "U", "W"};
        for (String text : texts) {
            WireField x = new WireField();
            x.run(5);
            Check.due("look(4) before", x.look(4), 5);
            Check.draw(x, text, 0, 0, 1);
            Check.due("look(4) after draw of " + text, x.look(4), 0);
            Check.due("look(0) after draw of " + text, x.look(0), 5);
            Check.due("back(1) after draw of " + text, x.back(1), false);
            Check.due("period() after draw of " + text, x.period(), 0);
            x.run(2);
            Check.due("look(4) then", x.look(4), 2);
            Check.due("back(2) then", x.back(2), true);
            Check.due("look(0) then", x.look(0), 5);
        }
    }
}
