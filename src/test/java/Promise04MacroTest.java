/** Promise 4: macro. */
public final class Promise04MacroTest {
    public static void main(String[] args) {
        theLineBecomesAMacro();
        theOldOneIsReplaced();
        noSuchMacro();
        noRowOfOrders();
        whatAMacroCanHold();
        whatThrowsChangesNothing();
        theHistoryStays();
        Check.end();
    }

    private static void theLineBecomesAMacro() {
        for (int letter = 0; letter < 4; letter++) {
            WireField x = new WireField();
            Check.due("macro(" + letter + ")", Check.macro(x, "2FE", letter), Check.NOTHING);
            Check.due("look(7) after macro", x.look(7), 0);
            Check.due("nothing is drawn by macro", x.look(1) + x.look(2) + x.look(3), 0);
            char name = (char) ('a' + letter);
            Check.due("draw of @" + name, Check.draw(x, "@" + name, 0, 0, 1), "4");
            Check.due("picture of @" + name, Check.picture(x, 0, 0, 4, 1), ".TH.");
            for (char other = 'a'; other <= 'd'; other++) {
                Check.due("draw of @" + other + " when " + name + " is there",
                        Check.draw(x, "@" + other, 0, 0, 1), other == name ? "4" : Check.ARGUMENT);
            }
        }
        WireField x = new WireField();
        Check.due("an empty macro", Check.macro(x, "", 0), Check.NOTHING);
        Check.due("draw of an empty macro", Check.draw(x, "@a", 0, 0, 0), "1");
        String sixty = "R".repeat(60);
        Check.due("a long macro", Check.macro(x, sixty, 1), Check.NOTHING);
        Check.due("draw of a long macro", Check.draw(x, "@bF", 5, 5, 0), "62");
        Check.due("where it leads", x.cell(5, 4), 3);
    }

    private static void theOldOneIsReplaced() {
        WireField x = new WireField();
        Check.macro(x, "5F", 0);
        Check.macro(x, "F", 0);
        Check.due("draw of the new one", Check.draw(x, "@a", 0, 0, 1), "2");
        Check.due("cells", x.look(3), 1);
        Check.macro(x, "", 0);
        Check.due("draw of the empty one", Check.draw(x, "@a", 0, 5, 1), "1");
        Check.due("cells then", x.look(3), 1);
        Check.write(x, "F");
        Check.due("the line is another than the macro", Check.drawLine(x, 0, 7, 1), "1");
        Check.due("the macro is as it was", Check.draw(x, "@a", 0, 9, 1), "1");
    }

    private static void noSuchMacro() {
        int[] wrong = {-1, 4, 5, 97, Integer.MIN_VALUE, Integer.MAX_VALUE};
        for (int letter : wrong) {
            WireField x = new WireField();
            Check.due("macro(" + letter + ")", Check.macro(x, "F", letter), Check.INDEX);
            Check.due("look(7) after it", x.look(7), 1);
            Check.due("macro(" + letter + ") of a wrong line", Check.macro(x, "X", letter), Check.INDEX);
        }
    }

    private static void noRowOfOrders() {
        String[] wrong = {"X", "3", "100F", "(F", "F]", "(F]", "@", "@e", "((((F))))", "F3", "2)", "3@"};
        for (String text : wrong) {
            for (int letter = 0; letter < 4; letter++) {
                WireField x = new WireField();
                Check.due("macro(" + letter + ") of " + text, Check.macro(x, text, letter), Check.ARGUMENT);
                Check.due("look(7) after it", x.look(7), text.length());
                Check.due("it is not there", Check.draw(x, "@" + (char) ('a' + letter), 5, 5, 0), Check.ARGUMENT);
            }
        }
        WireField x = new WireField();
        Check.due("three brackets", Check.macro(x, "([(F)])", 0), Check.NOTHING);
        Check.due("a way out is not asked", Check.macro(x, "99F", 0), Check.NOTHING);
        Check.due("too many orders are not asked", Check.macro(x, "99[99[F]]", 0), Check.NOTHING);
    }

    private static void whatAMacroCanHold() {
        for (int letter = 0; letter < 4; letter++) {
            for (int held = 0; held < 4; held++) {
                String[] forms = {"@", "F2@", "0(@", "[R(@"};
                String[] ends = {"", "F", ")", ")]"};
                for (int i = 0; i < forms.length; i++) {
                    WireField x = new WireField();
                    String text = forms[i] + (char) ('a' + held) + ends[i];
                    Check.due("macro(" + letter + ") of " + text, Check.macro(x, text, letter),
                            held < letter ? Check.NOTHING : Check.ARGUMENT);
                }
            }
        }
    }

    private static void whatThrowsChangesNothing() {
        WireField x = new WireField();
        Check.macro(x, "FF", 1);
        Check.due("a wrong macro", Check.macro(x, "F@b", 1), Check.ARGUMENT);
        Check.due("the line stays", Check.drawLine(x, 0, 0, 1), "4");
        Check.due("cells", x.look(3), 3);
        x.wipe();
        Check.due("the old macro stays", Check.draw(x, "@b", 0, 5, 1), "3");
    }

    private static void theHistoryStays() {
        WireField x = new WireField();
        x.run(3);
        Check.macro(x, "F", 0);
        Check.due("look(4) after macro", x.look(4), 3);
        Check.due("back(3) after macro", x.back(3), true);
    }
}
