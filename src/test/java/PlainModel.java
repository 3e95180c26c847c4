import java.util.ArrayList;
import java.util.Arrays;
import java.util.List;
import java.util.regex.Pattern;

/** The document told a second time, as plainly as can be and in another way: texts, lists, a copy for every change. */
final class PlainModel {
    private static final int[] DX = {0, 1, 0, -1};
    private static final int[] DY = {-1, 0, 1, 0};
    private static final Pattern ORDERS = orders();

    private int[][] field = new int[24][32];
    private String line = "";
    private final String[] macros = new String[4];
    private final List<long[]> sources = new ArrayList<>();
    private final List<long[]> probes = new ArrayList<>();
    private final List<int[][]> oldFields = new ArrayList<>();
    private final List<long[]> oldPlaces = new ArrayList<>();
    private int time;

    /** A drawing under way: column, row, direction, 1 if the pen is down. */
    private int[] pen;
    private int[][] canvas;
    private int done;

    static final class Beyond extends RuntimeException {
        private static final long serialVersionUID = 1L;
    }

    boolean type(char c) {
        if (c < 33 || c > 126 || line.length() == 60) {
            return false;
        }
        line += c;
        return true;
    }

    String draw(int column, int row, int direction) {
        if (!isCell(column, row) || direction < 0 || direction > 3) {
            return Check.INDEX;
        }
        if (!isOrders(line) || !allThere(line)) {
            return Check.ARGUMENT;
        }
        pen = new int[] {column, row, direction, 1};
        canvas = copyOf(field);
        done = 0;
        try {
            perform(line);
        } catch (Beyond e) {
            return Check.UNSUPPORTED;
        }
        field = canvas;
        line = "";
        forget();
        return Integer.toString(done);
    }

    String macro(int letter) {
        if (letter < 0 || letter > 3) {
            return Check.INDEX;
        }
        if (!isOrders(line)) {
            return Check.ARGUMENT;
        }
        for (char later = (char) ('a' + letter); later <= 'd'; later++) {
            if (line.contains("@" + later)) {
                return Check.ARGUMENT;
            }
        }
        macros[letter] = line;
        line = "";
        return Check.NOTHING;
    }

    void wipe() {
        line = "";
    }

    boolean set(int column, int row, int value) {
        if (!isCell(column, row) || value < 0 || value > 3) {
            return false;
        }
        field[row][column] = value;
        forget();
        return true;
    }

    int cell(int column, int row) {
        return isCell(column, row) ? field[row][column] : -1;
    }

    boolean copy(int column, int row, int width, int height, int toColumn, int toRow, int turns) {
        if (turns < 0 || turns > 3 || width < 1 || height < 1 || width > 32 || height > 32
                || !isCell(column, row) || !isCell(column + width - 1, row + height - 1)) {
            return false;
        }
        int[][] piece = new int[height][];
        for (int y = 0; y < height; y++) {
            piece[y] = Arrays.copyOfRange(field[row + y], column, column + width);
        }
        for (int i = 0; i < turns; i++) {
            piece = turnedRight(piece);
        }
        if (!isCell(toColumn, toRow) || !isCell(toColumn + piece[0].length - 1, toRow + piece.length - 1)) {
            return false;
        }
        for (int y = 0; y < piece.length; y++) {
            for (int x = 0; x < piece[0].length; x++) {
                if (piece[y][x] != 0) {
                    field[toRow + y][toColumn + x] = piece[y][x];
                }
            }
        }
        forget();
        return true;
    }

    int source(int column, int row, long pattern, int n) {
        if (!isCell(column, row) || n < 1 || n > 64 || sources.size() == 4) {
            return -1;
        }
        sources.add(new long[] {column, row, pattern, n, 0});
        return sources.size() - 1;
    }

    int probe(int column, int row) {
        if (!isCell(column, row) || probes.size() == 4) {
            return -1;
        }
        probes.add(new long[] {column, row, 0, -1, 0});
        return probes.size() - 1;
    }

    int run(int n) {
        if (n < 1 || n > 60) {
            return -1;
        }
        for (int i = 0; i < n; i++) {
            oldFields.add(copyOf(field));
            oldPlaces.add(places());
            if (oldFields.size() > 16) {
                oldFields.remove(0);
                oldPlaces.remove(0);
            }
            act();
            field = next();
            time++;
            note();
        }
        return count(1);
    }

    boolean back(int n) {
        if (n < 1 || n > oldFields.size()) {
            return false;
        }
        for (int i = 0; i < n; i++) {
            field = oldFields.remove(oldFields.size() - 1);
            long[] places = oldPlaces.remove(oldPlaces.size() - 1);
            for (int s = 0; s < sources.size(); s++) {
                sources.get(s)[4] = places[s];
            }
            time--;
        }
        return true;
    }

    int period() {
        for (int p = 1; p <= oldFields.size(); p++) {
            if (Arrays.deepEquals(field, oldFields.get(oldFields.size() - p))) {
                return p;
            }
        }
        return 0;
    }

    String seen(int probe, int what) {
        if (probe < 0 || probe >= probes.size() || what < 0 || what > 1) {
            return Check.INDEX;
        }
        return Long.toString(probes.get(probe)[2 + what]);
    }

    long record(int probe) {
        return probe < 0 || probe >= probes.size() ? 0 : probes.get(probe)[4];
    }

    int look(int what) {
        int[] all = {time, count(1), count(2), count(3), oldFields.size(), sources.size(), probes.size(), line.length()};
        return what < 0 || what >= all.length ? -1 : all[what];
    }

    private static boolean isCell(int column, int row) {
        return column >= 0 && column <= 31 && row >= 0 && row <= 23;
    }

    private static int[][] copyOf(int[][] cells) {
        int[][] copy = new int[cells.length][];
        for (int i = 0; i < cells.length; i++) {
            copy[i] = cells[i].clone();
        }
        return copy;
    }

    private void forget() {
        oldFields.clear();
        oldPlaces.clear();
    }

    private int count(int value) {
        int sum = 0;
        for (int[] row : field) {
            for (int cell : row) {
                sum += cell == value ? 1 : 0;
            }
        }
        return sum;
    }

    private static int[][] turnedRight(int[][] piece) {
        int[][] turned = new int[piece[0].length][piece.length];
        for (int y = 0; y < piece.length; y++) {
            for (int x = 0; x < piece[0].length; x++) {
                turned[x][piece.length - 1 - y] = piece[y][x];
            }
        }
        return turned;
    }

    private long[] places() {
        long[] places = new long[4];
        for (int s = 0; s < sources.size(); s++) {
            places[s] = sources.get(s)[4];
        }
        return places;
    }

    private void act() {
        for (long[] s : sources) {
            if ((s[2] >> s[4] & 1) == 1 && field[(int) s[1]][(int) s[0]] == 3) {
                field[(int) s[1]][(int) s[0]] = 1;
            }
            s[4] = (s[4] + 1) % s[3];
        }
    }

    private int[][] next() {
        int[][] after = new int[24][32];
        for (int y = 0; y < 24; y++) {
            for (int x = 0; x < 32; x++) {
                int heads = 0;
                for (int i = 0; i < 9; i++) {
                    heads += i != 4 && cell(x + i % 3 - 1, y + i / 3 - 1) == 1 ? 1 : 0;
                }
                int[] then = {0, 2, 3, heads == 1 || heads == 2 ? 1 : 3};
                after[y][x] = then[field[y][x]];
            }
        }
        return after;
    }

    private void note() {
        for (long[] p : probes) {
            boolean isHead = field[(int) p[1]][(int) p[0]] == 1;
            p[4] = p[4] * 2 + (isHead ? 1 : 0);
            if (isHead) {
                p[2]++;
                p[3] = time;
            }
        }
    }

    /** A pattern for what has no brackets, put into itself three times for the brackets. */
    private static Pattern orders() {
        String single = "[FBRLUDEW<]|@[a-d]";
        String orders = "([0-9]{0,2}(" + single + "))*";
        for (int depth = 0; depth < 3; depth++) {
            orders = "([0-9]{0,2}(" + single + "|\\(" + orders + "\\)|\\[" + orders + "\\]))*";
        }
        return Pattern.compile(orders);
    }

    private static boolean isOrders(String text) {
        return ORDERS.matcher(text).matches();
    }

    private boolean allThere(String text) {
        for (int letter = 0; letter < 4; letter++) {
            if (text.contains("@" + (char) ('a' + letter))
                    && (macros[letter] == null || !allThere(macros[letter]))) {
                return false;
            }
        }
        return true;
    }

    private void perform(String text) {
        String rest = text;
        while (!rest.isEmpty()) {
            String digits = rest.replaceFirst("[^0-9].*", "");
            rest = rest.substring(digits.length());
            int length = rest.charAt(0) == '@' ? 2 : 1;
            if (rest.charAt(0) == '(' || rest.charAt(0) == '[') {
                int open = 1;
                while (open > 0) {
                    open += "([".indexOf(rest.charAt(length)) >= 0 ? 1 : 0;
                    open -= ")]".indexOf(rest.charAt(length)) >= 0 ? 1 : 0;
                    length++;
                }
            }
            int times = digits.isEmpty() ? 1 : Integer.parseInt(digits);
            for (int i = 0; i < times; i++) {
                order(rest.substring(0, length));
            }
            rest = rest.substring(length);
        }
    }

    private void order(String order) {
        done++;
        if (done > 400) {
            throw new Beyond();
        }
        switch (order.charAt(0)) {
            case 'F' -> {
                go(1);
                ink(pen[0], pen[1]);
            }
            case 'B' -> go(-1);
            case 'R' -> pen[2] = (pen[2] + 1) % 4;
            case 'L' -> pen[2] = (pen[2] + 3) % 4;
            case 'U' -> pen[3] = 0;
            case 'D' -> pen[3] = 1;
            case 'E' -> {
                canvas[pen[1]][pen[0]] = 1;
                int x = pen[0] - DX[pen[2]];
                int y = pen[1] - DY[pen[2]];
                if (isCell(x, y) && canvas[y][x] == 3) {
                    canvas[y][x] = 2;
                }
            }
            case 'W' -> canvas[pen[1]][pen[0]] = 0;
            case '<' -> diode();
            case '@' -> perform(macros[order.charAt(1) - 'a']);
            case '[' -> perform(order.substring(1, order.length() - 1));
            default -> {
                int[] before = pen.clone();
                perform(order.substring(1, order.length() - 1));
                pen = before;
            }
        }
    }

    private void go(int step) {
        pen[0] += step * DX[pen[2]];
        pen[1] += step * DY[pen[2]];
        if (!isCell(pen[0], pen[1])) {
            throw new Beyond();
        }
    }

    private void ink(int column, int row) {
        if (!isCell(column, row)) {
            throw new Beyond();
        }
        if (pen[3] == 1) {
            canvas[row][column] = 3;
        }
    }

    private void diode() {
        int sideX = DX[(pen[2] + 1) % 4];
        int sideY = DY[(pen[2] + 1) % 4];
        for (int step = 1; step <= 4; step++) {
            go(1);
            if (step == 2 || step == 3) {
                ink(pen[0] + sideX, pen[1] + sideY);
                ink(pen[0] - sideX, pen[1] - sideY);
            }
            if (step != 2) {
                ink(pen[0], pen[1]);
            }
        }
    }
}
