/** What the tests share: it counts and prints the answers that are not as due. */
final class Check {
    private static int wrong = 0;

    private Check() {
    }

    /** How a call ended that may throw. */
    static final String NOTHING = "nothing";
    static final String INDEX = "IndexOutOfBoundsException";
    static final String ARGUMENT = "IllegalArgumentException";
    static final String UNSUPPORTED = "UnsupportedOperationException";

    static void due(String what, long got, long want) {
        if (got != want) {
            tellWrong(what, Long.toString(got), Long.toString(want));
        }
    }

    static void due(String what, boolean got, boolean want) {
        if (got != want) {
            tellWrong(what, Boolean.toString(got), Boolean.toString(want));
        }
    }

    static void due(String what, String got, String want) {
        if (!got.equals(want)) {
            tellWrong(what, got, want);
        }
    }

    private static void tellWrong(String what, String got, String want) {
        wrong++;
        System.out.println(what + " answered " + got + ", due is " + want);
    }

    static void end() {
        System.out.println(wrong == 0 ? "all answers are as due" : wrong + " answers are not as due");
        if (wrong != 0) {
            System.exit(1);
        }
    }

    static void write(WireField x, String text) {
        for (int i = 0; i < text.length(); i++) {
            due("type of " + text.charAt(i) + " in " + text, x.type(text.charAt(i)), true);
        }
    }

    /** Writes a text in the place of the line and draws it: how many orders were done, or what it throws. */
    static String draw(WireField x, String text, int column, int row, int direction) {
        x.wipe();
        write(x, text);
        return drawLine(x, column, row, direction);
    }

    static String drawLine(WireField x, int column, int row, int direction) {
        try {
            return Integer.toString(x.draw(column, row, direction));
        } catch (RuntimeException e) {
            return e.getClass().getSimpleName();
        }
    }

    /** Writes a text in the place of the line and makes it a macro: what it throws. */
    static String macro(WireField x, String text, int letter) {
        x.wipe();
        write(x, text);
        return macroOfLine(x, letter);
    }

    static String macroOfLine(WireField x, int letter) {
        try {
            x.macro(letter);
            return NOTHING;
        } catch (RuntimeException e) {
            return e.getClass().getSimpleName();
        }
    }

    static String seen(WireField x, int probe, int what) {
        try {
            return Integer.toString(x.seen(probe, what));
        } catch (RuntimeException e) {
            return e.getClass().getSimpleName();
        }
    }

    /** The field as a picture: . EMPTY, H HEAD, T TAIL, # WIRE; the rows from one on, cut to a width and height. */
    static String picture(WireField x, int column, int row, int width, int height) {
        StringBuilder all = new StringBuilder();
        for (int r = row; r < row + height; r++) {
            if (r > row) {
                all.append('/');
            }
            for (int c = column; c < column + width; c++) {
                int value = x.cell(c, r);
                all.append(value >= 0 && value <= 3 ? ".HT#".charAt(value) : '?');
            }
        }
        return all.toString();
    }

    /** Sets the cells that a picture shows. */
    static void paint(WireField x, int column, int row, String picture) {
        String[] rows = picture.split("/");
        for (int r = 0; r < rows.length; r++) {
            for (int c = 0; c < rows[r].length(); c++) {
                x.set(column + c, row + r, ".HT#".indexOf(rows[r].charAt(c)));
            }
        }
    }

    /** All that look, period, seen and record tell. */
    static String numbers(WireField x) {
        StringBuilder all = new StringBuilder();
        for (int what = 0; what <= 7; what++) {
            all.append(' ').append(x.look(what));
        }
        all.append(' ').append(x.period());
        for (int p = 0; p < 4; p++) {
            all.append(' ').append(seen(x, p, 0)).append(' ').append(seen(x, p, 1)).append(' ').append(x.record(p));
        }
        return all.toString();
    }
}
