/** The boundary sentences of the term DRAWING. */
public final class EdgeDrawingTest {
    private static final int[] COLUMN_STEPS = {0, 1, 0, -1};
    private static final int[] ROW_STEPS = {-1, 0, 1, 0};
    private static final String[] BRACKETS = {"()", "[]"};

    public static void main(String[] args) {
        atMostSixtyCharacters();
        charactersFrom33To126();
        directionsGoRound();
        thePenIsDownAtFirst();
        numbersOfOneOrTwoDigits();
        numbersOfThreeDigits();
        numbersInFrontOfNothing();
        numbersInFrontOfEachOrder();
        stepsUpToTheEdge();
        electronsWithTheBackToTheEdge();
        onlyAWireBecomesTail();
        emptyingAnEmptyCell();
        branchesEndAsTheyBegan();
        branchesAtTheEdge();
        diodesUpToTheEdge();
        theMiddleOfADiodeKeepsItsContent();
        lettersFromAToD();
        whatAMacroCanHold();
        atMostThreeBrackets();
        bracketsBesideOneAnother();
        bracketsOfEachTextAreCountedApart();
        theFourHundredthOrder();
        allThatIsInBracketsCounts();
        allThatIsInMacrosCounts();
        theLongestWayThroughMacros();
        Check.end();
    }

    private static String onNew(String text, int column, int row, int direction) {
        return Check.draw(new WireField(), text, column, row, direction);
    }

    /** "The LINE is a text of at most 60 characters" */
    private static void atMostSixtyCharacters() {
        WireField x = new WireField();
        Check.write(x, "R".repeat(59));
        Check.due("the 60th", x.type('F'), true);
        Check.due("the 61st", x.type('F'), false);
        Check.due("look(7)", x.look(7), 60);
        Check.due("draw of sixty", Check.drawLine(x, 5, 5, 0), "60");
        Check.due("the last of sixty is done", x.cell(4, 5), 3);
        Check.due("cells", x.look(3), 1);
    }

    /** "(33 .. 126)" */
    private static void charactersFrom33To126() {
        char[] taken = {33, 34, 125, 126};
        char[] refused = {0, 9, 10, 31, 32, 127, 128, 255, 256 + 'F', 65535};
        for (char c : taken) {
            WireField x = new WireField();
            Check.due("type((char) " + (int) c + ")", x.type(c), true);
            Check.due("look(7)", x.look(7), 1);
        }
        for (char c : refused) {
            WireField x = new WireField();
            Check.due("type((char) " + (int) c + ")", x.type(c), false);
            Check.due("look(7)", x.look(7), 0);
        }
    }

    /** "R, L: the direction turned to the right, the left": from 3 comes 0, from 0 comes 3. */
    private static void directionsGoRound() {
        for (int direction = 0; direction < 4; direction++) {
            for (int turns = 0; turns <= 9; turns++) {
                WireField x = new WireField();
                int right = (direction + turns) % 4;
                int left = (direction + 36 - turns) % 4;
                Check.draw(x, turns + "RF", 10, 10, direction);
                Check.due(turns + "RF in direction " + direction,
                        x.cell(10 + COLUMN_STEPS[right], 10 + ROW_STEPS[right]), 3);
                Check.draw(x, turns + "LF", 20, 10, direction);
                Check.due(turns + "LF in direction " + direction,
                        x.cell(20 + COLUMN_STEPS[left], 10 + ROW_STEPS[left]), 3);
            }
        }
    }

    /** "U, D: the pen is up, down (at first down)": at the beginning of every drawing, also behind one that threw. */
    private static void thePenIsDownAtFirst() {
        WireField x = new WireField();
        Check.due("the first drawing", Check.draw(x, "FU", 0, 0, 1), "2");
        Check.due("behind one that ended with the pen up", Check.draw(x, "F", 0, 1, 1), "1");
        Check.due("one that throws with the pen up", Check.draw(x, "UFB9B", 0, 2, 1), Check.UNSUPPORTED);
        Check.due("behind that one", Check.draw(x, "F", 0, 2, 1), "1");
        Check.due("one whose branch throws with the pen up", Check.draw(x, "(U9B)", 0, 3, 1), Check.UNSUPPORTED);
        Check.due("behind that one", Check.draw(x, "F", 0, 3, 1), "1");
        Check.due("what is drawn", Check.picture(x, 0, 0, 3, 5), ".#./.#./.#./.#./...");
        Check.due("up and down again", Check.draw(x, "UFDFUF", 0, 7, 1), "6");
        Check.due("up when it is up, down when it is down", Check.draw(x, "UUFDDFDF", 0, 8, 1), "8");
        Check.due("what is drawn then", Check.picture(x, 0, 7, 5, 2), "..#../..##.");
    }

    /** "a number (1 or 2 digits) in front of an order does it so often" */
    private static void numbersOfOneOrTwoDigits() {
        String[] numbers = {"0", "00", "1", "01", "2", "9", "09", "10", "11", "90", "98", "99"};
        for (String number : numbers) {
            String due = Integer.toString(Integer.parseInt(number));
            Check.due(number + "R", onNew(number + "R", 0, 0, 0), due);
            WireField x = new WireField();
            Check.due(number + "[UR] and an F", Check.draw(x, number + "[UR]F", 5, 5, 0),
                    Integer.toString(Integer.parseInt(number) * 3 + 1));
            Check.due("the pen is down if it was done no time, " + number, x.look(3), due.equals("0") ? 1 : 0);
        }
    }

    private static void numbersOfThreeDigits() {
        String[] wrong = {"100R", "000R", "001R", "010R", "999R", "1000R", "R100R", "(100R)", "[100R]", "100(R)",
            "100[R]", "100<", "100@a", "0000000000R"};
        for (String text : wrong) {
            throwsByItsLine(text);
        }
    }

    private static void numbersInFrontOfNothing() {
        String[] wrong = {"0", "1", "00", "99", "R1", "R99", "(1)", "[1]", "(R1)", "[R99]", "1)", "1]", "1(1)", "(1", "[1"};
        for (String text : wrong) {
            throwsByItsLine(text);
        }
    }

    private static void throwsByItsLine(String text) {
        WireField x = new WireField();
        Check.macro(x, "F", 0);
        Check.due("draw of " + text, Check.draw(x, text, 10, 10, 0), Check.ARGUMENT);
        Check.due("look(7) after draw of " + text, x.look(7), text.length());
        Check.due("cells after draw of " + text, x.look(3), 0);
        Check.due("macro of " + text, Check.macroOfLine(x, 3), Check.ARGUMENT);
        Check.due("look(7) after macro of " + text, x.look(7), text.length());
    }

    private static void numbersInFrontOfEachOrder() {
        String[] orders = {"F", "B", "R", "L", "U", "D", "E", "W", "<", "()", "[]", "(R)", "[R]", "@a"};
        int[] each = {1, 1, 1, 1, 1, 1, 1, 1, 1, 1, 1, 2, 2, 2};
        for (int i = 0; i < orders.length; i++) {
            for (int times = 0; times <= 3; times++) {
                WireField x = new WireField();
                Check.macro(x, "R", 0);
                Check.due("draw of " + times + orders[i], Check.draw(x, times + orders[i], 10, 12, 0),
                        Integer.toString(times * each[i]));
            }
        }
    }

    private static int toTheEdge(int column, int row, int direction) {
        int[] cells = {row, 31 - column, 23 - row, column};
        return cells[direction];
    }

    /** "An order that leads beyond the field ends the drawing with an error": the last step within, the first beyond. */
    private static void stepsUpToTheEdge() {
        int[][] starts = {{0, 0}, {31, 0}, {0, 23}, {31, 23}, {10, 7}, {1, 1}, {30, 22}};
        for (int[] start : starts) {
            for (int direction = 0; direction < 4; direction++) {
                int forward = toTheEdge(start[0], start[1], direction);
                int backward = toTheEdge(start[0], start[1], (direction + 2) % 4);
                String from = " from " + start[0] + ", " + start[1] + " in direction " + direction;
                WireField x = new WireField();
                Check.due("one too many" + from,
                        Check.draw(x, forward + 1 + "F", start[0], start[1], direction), Check.UNSUPPORTED);
                Check.due("cells" + from, x.look(3), 0);
                Check.due("up to the edge" + from,
                        Check.draw(x, forward + "F", start[0], start[1], direction), Integer.toString(forward));
                Check.due("cells then" + from, x.look(3), forward);
                Check.due("one too many with the pen up" + from,
                        onNew("U" + (forward + 1) + "F", start[0], start[1], direction), Check.UNSUPPORTED);
                Check.due("one too many backward" + from,
                        onNew(backward + 1 + "B", start[0], start[1], direction), Check.UNSUPPORTED);
                Check.due("up to the edge backward" + from,
                        onNew(backward + "B", start[0], start[1], direction), Integer.toString(backward));
            }
        }
    }

    /** "and the one behind it, if it is WIRE, TAIL": beyond the field there is none, and that is no error. */
    private static void electronsWithTheBackToTheEdge() {
        int[][] backs = {{15, 23, 0, 15, 0}, {0, 12, 1, 31, 12}, {15, 0, 2, 15, 23}, {31, 12, 3, 0, 12}};
        for (int[] at : backs) {
            WireField x = new WireField();
            x.set(at[3], at[4], 3);
            Check.due("E with the back to the edge", Check.draw(x, "E", at[0], at[1], at[2]), "1");
            Check.due("it is HEAD", x.cell(at[0], at[1]), 1);
            Check.due("the cell on the other side stays", x.cell(at[3], at[4]), 3);
            Check.due("cells", x.look(1) + x.look(2) + x.look(3), 2);
        }
        WireField x = new WireField();
        x.set(31, 0, 3);
        x.set(31, 23, 3);
        Check.due("E left above", Check.draw(x, "E", 0, 0, 1), "1");
        Check.due("E left below", Check.draw(x, "E", 0, 23, 0), "1");
        Check.due("HEADs", x.look(1), 2);
        Check.due("TAILs", x.look(2), 0);
    }

    private static void onlyAWireBecomesTail() {
        for (int direction = 0; direction < 4; direction++) {
            for (int behind = 0; behind <= 3; behind++) {
                for (int here = 0; here <= 3; here++) {
                    electronOn(here, behind, direction);
                }
            }
        }
    }

    private static void electronOn(int here, int behind, int direction) {
        int[] then = {0, 1, 2, 2};
        WireField x = new WireField();
        Check.paint(x, 4, 4, "###/###/###");
        int column = 5 - COLUMN_STEPS[direction];
        int row = 5 - ROW_STEPS[direction];
        x.set(column, row, behind);
        x.set(5, 5, here);
        Check.due("E on " + here + " with " + behind + " behind it", Check.draw(x, "E", 5, 5, direction), "1");
        Check.due("the cell", x.cell(5, 5), 1);
        Check.due("the one behind it", x.cell(column, row), then[behind]);
        Check.due("the seven others stay", x.look(3), 7);
    }

    /** "W: the cell becomes EMPTY" */
    private static void emptyingAnEmptyCell() {
        int[][] corners = {{0, 0}, {31, 0}, {0, 23}, {31, 23}};
        for (int[] corner : corners) {
            for (int value = 0; value <= 3; value++) {
                WireField x = new WireField();
                x.set(corner[0], corner[1], value);
                Check.due("W on " + value, Check.draw(x, "W", corner[0], corner[1], 0), "1");
                Check.due("the cell then", x.cell(corner[0], corner[1]), 0);
            }
        }
    }

    /** "( ORDERS ): these, and pen, direction and cell are as before then" */
    private static void branchesEndAsTheyBegan() {
        for (int direction = 0; direction < 4; direction++) {
            int column = 10 + COLUMN_STEPS[direction];
            int row = 10 + ROW_STEPS[direction];
            WireField x = new WireField();
            Check.due("a branch with the pen up", Check.draw(x, "(ULLFRF)F", 10, 10, direction), "8");
            Check.due("the cell behind it", x.cell(column, row), 3);
            Check.due("no other", x.look(3), 1);
            WireField y = new WireField();
            Check.due("a branch with the pen down", Check.draw(y, "U(DF)3F", 10, 10, direction), "7");
            Check.due("the cell in it", y.cell(column, row), 3);
            Check.due("no other", y.look(3), 1);
        }
    }

    /** What leads beyond the field is an error in a branch too. */
    private static void branchesAtTheEdge() {
        WireField x = new WireField();
        Check.due("out of a branch and back", Check.draw(x, "(FB)", 31, 5, 1), Check.UNSUPPORTED);
        Check.due("out of a group and back", Check.draw(x, "[FB]", 31, 5, 1), Check.UNSUPPORTED);
        Check.due("a branch up to the edge, done twice", Check.draw(x, "2(31F)", 0, 5, 1), "64");
        Check.due("a group up to the edge, done twice", Check.draw(x, "2[31F]", 0, 6, 1), Check.UNSUPPORTED);
        Check.due("cells", x.look(3), 31);
        Check.due("an empty branch", Check.draw(x, "()F", 0, 8, 1), "2");
        Check.due("an empty group", Check.draw(x, "[]F", 0, 9, 1), "2");
        Check.due("cells then", x.look(3), 33);
    }

    /** "(all these cells must be within the field)": ahead four cells, one to both sides; the pen may be up. */
    private static void diodesUpToTheEdge() {
        for (int direction = 0; direction < 4; direction++) {
            boolean across = direction % 2 == 1;
            for (int ahead = 0; ahead <= 5; ahead++) {
                for (int aside = 0; aside <= 2; aside++) {
                    int along = direction == 0 || direction == 3 ? ahead : (across ? 31 : 23) - ahead;
                    int[] sides = {aside, (across ? 23 : 31) - aside};
                    for (int side : sides) {
                        diodeFrom(across ? along : side, across ? side : along, direction, ahead >= 4 && aside >= 1);
                    }
                }
            }
        }
    }

    private static void diodeFrom(int column, int row, int direction, boolean within) {
        String from = " from " + column + ", " + row + " in direction " + direction;
        WireField x = new WireField();
        Check.due("<" + from, Check.draw(x, "<", column, row, direction), within ? "1" : Check.UNSUPPORTED);
        Check.due("cells of <" + from, x.look(3), within ? 7 : 0);
        Check.due("look(7) after <" + from, x.look(7), within ? 0 : 1);
        WireField y = new WireField();
        Check.due("U<" + from, Check.draw(y, "U<", column, row, direction), within ? "2" : Check.UNSUPPORTED);
        Check.due("cells of U<" + from, y.look(3), 0);
        Check.due("the pen stands four cells on" + from, onNew("<4B", column, row, direction),
                within ? "5" : Check.UNSUPPORTED);
    }

    /** "the middle one of the first of them is not drawn (its old content stays)" */
    private static void theMiddleOfADiodeKeepsItsContent() {
        for (int direction = 0; direction < 4; direction++) {
            for (int old = 0; old <= 3; old++) {
                WireField x = new WireField();
                for (int ahead = 0; ahead <= 5; ahead++) {
                    x.set(10 + ahead * COLUMN_STEPS[direction], 10 + ahead * ROW_STEPS[direction], old);
                }
                Check.draw(x, "<", 10, 10, direction);
                for (int side = -1; side <= 1; side += 2) {
                    int right = (direction + 1) % 4;
                    for (int ahead = 0; ahead <= 5; ahead++) {
                        Check.due("the cell beside " + ahead + " ahead in direction " + direction,
                                x.cell(10 + ahead * COLUMN_STEPS[direction] + side * COLUMN_STEPS[right],
                                        10 + ahead * ROW_STEPS[direction] + side * ROW_STEPS[right]),
                                ahead == 2 || ahead == 3 ? 3 : 0);
                    }
                }
                for (int ahead = 0; ahead <= 5; ahead++) {
                    Check.due("the cell " + ahead + " ahead in direction " + direction,
                            x.cell(10 + ahead * COLUMN_STEPS[direction], 10 + ahead * ROW_STEPS[direction]),
                            ahead == 1 || ahead == 3 || ahead == 4 ? 3 : old);
                }
            }
        }
    }

    /** "@ and a letter a .. d" */
    private static void lettersFromAToD() {
        String[] wrong = {"@`", "@e", "@A", "@D", "@@", "@1", "@(", "@", "@@a", "1@", "(@)", "[@]"};
        for (String text : wrong) {
            throwsByItsLine(text);
        }
        for (char letter = 'a'; letter <= 'd'; letter++) {
            WireField x = new WireField();
            Check.due("draw of @" + letter + " that is not there", Check.draw(x, "@" + letter, 5, 5, 0), Check.ARGUMENT);
            Check.due("macro of it", Check.macro(x, "F", letter - 'a'), Check.NOTHING);
            Check.due("draw of @" + letter, Check.draw(x, "@" + letter, 5, 5, 0), "2");
        }
    }

    /** "which can not hold macros with the same or a later letter, so a holds none" */
    private static void whatAMacroCanHold() {
        String[] forms = {"@x", "F@x", "@xF", "0@x", "00@x", "99@x", "(@x)", "[@x]", "0(@x)", "(((@x)))", "[[[@x]]]"};
        for (String form : forms) {
            for (int letter = 0; letter < 4; letter++) {
                for (int held = 0; held < 4; held++) {
                    WireField x = new WireField();
                    String text = form.replace('x', (char) ('a' + held));
                    boolean can = held < letter;
                    Check.due("macro(" + letter + ") of " + text, Check.macro(x, text, letter),
                            can ? Check.NOTHING : Check.ARGUMENT);
                    Check.due("look(7) then", x.look(7), can ? 0 : text.length());
                }
            }
        }
        WireField x = new WireField();
        Check.due("d with a, b and c", Check.macro(x, "@a@b@c", 3), Check.NOTHING);
        Check.due("d with a, b, c and d", Check.macro(x, "@a@b@c@d", 3), Check.ARGUMENT);
        Check.due("c with a, c and b", Check.macro(x, "@a@c@b", 2), Check.ARGUMENT);
    }

    /** "At most 3 ( and [ lie inside one another in a text": every kind in every other, three and four deep. */
    private static void atMostThreeBrackets() {
        for (int depth = 0; depth <= 5; depth++) {
            for (int kinds = 0; kinds < 1 << depth; kinds++) {
                for (String inner : new String[] {"", "R", "2R"}) {
                    String text = inner;
                    for (int i = 0; i < depth; i++) {
                        String pair = BRACKETS[kinds >> i & 1];
                        text = pair.charAt(0) + text + pair.charAt(1);
                    }
                    int done = depth + (inner.isEmpty() ? 0 : inner.length());
                    Check.due("draw of " + text, onNew(text, 5, 5, 0), depth <= 3 ? Integer.toString(done) : Check.ARGUMENT);
                    for (int letter = 0; letter < 4; letter++) {
                        Check.due("macro(" + letter + ") of " + text, Check.macro(new WireField(), text, letter),
                                depth <= 3 ? Check.NOTHING : Check.ARGUMENT);
                    }
                }
            }
        }
        throwsByItsLine("0((((F))))");
        throwsByItsLine("(([F(F[F])]))");
    }

    /** Not inside one another: as many as the line has room for. */
    private static void bracketsBesideOneAnother() {
        Check.due("thirty beside one another", onNew("()[]".repeat(15), 0, 0, 0), "30");
        Check.due("three deep, ten times", onNew("([()])".repeat(10), 0, 0, 0), "30");
        Check.due("a deep one behind a deep one", onNew("(([]))((()))[[[]]]", 0, 0, 0), "9");
        Check.due("three inside and beside", onNew("((()())(()()))", 0, 0, 0), "7");
        String[] wrong = {"(", ")", "[", "]", ")(", "][", "(]", "[)", "([)]", "[(])", "(()", "())", "[[]", "[]]", "((("};
        for (String text : wrong) {
            throwsByItsLine(text);
        }
    }

    private static void bracketsOfEachTextAreCountedApart() {
        WireField x = new WireField();
        Check.macro(x, "(((F)))", 0);
        Check.due("three round a macro with three", Check.draw(x, "[[[@a]]]", 5, 5, 0), "8");
        Check.due("cells", x.look(3), 1);
        Check.due("four round a macro", Check.draw(x, "[[[[@a]]]]", 5, 5, 0), Check.ARGUMENT);
    }

    /** "so does a 401st order done": each order is taken as the 400th and refused as the 401st. */
    private static void theFourHundredthOrder() {
        String[] orders = {"F", "B", "R", "L", "U", "D", "E", "W", "<", "()", "[]", "@a"};
        for (String order : orders) {
            WireField x = new WireField();
            Check.macro(x, "", 0);
            Check.due(order + " as the 401st", Check.draw(x, "4[98R]4R" + order, 15, 12, 0), Check.UNSUPPORTED);
            Check.due("cells after it", x.look(1) + x.look(3), 0);
            Check.due("look(7) after it", x.look(7), 8 + order.length());
            Check.due(order + " as the 400th", Check.draw(x, "4[98R]3R" + order, 15, 12, 0), "400");
        }
        Check.due("the 401st is one of many", onNew("4[98R]99R", 0, 0, 0), Check.UNSUPPORTED);
        Check.due("what is done no time is no 401st", onNew("4[98R]4R0R0(R)0[R]0<", 0, 0, 0), "400");
    }

    /** "each order counts when it is done, also ( [ @ and all that is in them" */
    private static void allThatIsInBracketsCounts() {
        for (String pair : BRACKETS) {
            char open = pair.charAt(0);
            char close = pair.charAt(1);
            Check.due("400 in one " + pair, onNew(open + "4[98R]3R" + close, 0, 0, 0), "400");
            Check.due("401 in one " + pair, onNew(open + "4[98R]4R" + close, 0, 0, 0), Check.UNSUPPORTED);
            Check.due("400 by " + pair, onNew("80" + open + "4R" + close, 0, 0, 0), "400");
            Check.due("401 by " + pair, onNew("R80" + open + "4R" + close, 0, 0, 0), Check.UNSUPPORTED);
            Check.due("400 by empty " + pair, onNew("4[99" + pair + "]", 0, 0, 0), "400");
            Check.due("401 by empty " + pair, onNew("4[99" + pair + "]" + pair, 0, 0, 0), Check.UNSUPPORTED);
        }
    }

    private static void allThatIsInMacrosCounts() {
        WireField x = new WireField();
        Check.macro(x, "3R", 0);
        Check.macro(x, "@a", 1);
        Check.macro(x, "", 2);
        Check.due("400 by a", Check.draw(x, "99@a4R", 0, 0, 0), "400");
        Check.due("401 by a", Check.draw(x, "99@a5R", 0, 0, 0), Check.UNSUPPORTED);
        Check.due("400 by b, that holds a", Check.draw(x, "80@b", 0, 0, 0), "400");
        Check.due("401 by b, that holds a", Check.draw(x, "80@bR", 0, 0, 0), Check.UNSUPPORTED);
        Check.due("400 by an empty one", Check.draw(x, "4[99@c]", 0, 0, 0), "400");
        Check.due("401 by an empty one", Check.draw(x, "4[99@c]@c", 0, 0, 0), Check.UNSUPPORTED);
    }

    /** Line and macros one in another, three brackets round each: as deep as a drawing can go. */
    private static void theLongestWayThroughMacros() {
        WireField x = new WireField();
        Check.macro(x, "([(F)])", 0);
        Check.macro(x, "[([@a])]", 1);
        Check.macro(x, "([(@b)])", 2);
        Check.macro(x, "[([@c])]", 3);
        Check.due("the deepest drawing", Check.draw(x, "[[[@d]]]", 31, 23, 0), "20");
        Check.due("its cell", x.cell(31, 22), 3);
        Check.due("the deepest drawing beyond the field", Check.draw(x, "[[[@d]]]", 31, 23, 1), Check.UNSUPPORTED);
        Check.due("cells", x.look(3), 1);
    }
}
