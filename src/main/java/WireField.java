/** A field of cells on which electrons run along wires; ../shared/DOC.md says what each call does. */
public final class WireField {
    private static final int COLUMNS = 32;
    private static final int ROWS = 24;
    private static final int NO_CELL = -1;
    private static final int EMPTY = 0;
    private static final int HEAD = 1;
    private static final int TAIL = 2;
    private static final int WIRE = 3;
    private static final int DIRECTIONS = 4;
    private static final int LONGEST_TEXT = 60;
    private static final int DEEPEST_BRACKETS = 3;
    private static final int MACROS = 4;
    private static final int MOST_ORDERS = 400;
    /** The line and four macros, one in another, each with three brackets round what it holds. */
    private static final int DEEPEST_ORDERS = (MACROS + 1) * (DEEPEST_BRACKETS + 1);
    private static final int MOST_SOURCES = 4;
    private static final int LONGEST_PATTERN = 64;
    private static final int MOST_PROBES = 4;
    private static final int LONGEST_RUN = 60;
    private static final int KEPT_GENERATIONS = 16;
    private static final int REFUSED = -1;
    private static final String ORDERS_OF_ONE_SIGN = "FBRLUDEW<";
    private static final int[] COLUMN_STEPS = {0, 1, 0, -1};
    private static final int[] ROW_STEPS = {-1, 0, 1, 0};

    private final Grid field = new Grid();
    /** Copying and a generation need the field as it was before beside the one that they make. */
    private final Grid draft = new Grid();
    private final Pen pen = new Pen();
    private final Text line = new Text();
    private final Text[] macros = new Text[MACROS];
    private final boolean[] macroIsThere = new boolean[MACROS];
    private final Source[] sources = new Source[MOST_SOURCES];
    private int sourceCount = 0;
    private final Probe[] probes = new Probe[MOST_PROBES];
    private int probeCount = 0;
    private final Moment[] moments = new Moment[KEPT_GENERATIONS];
    private int keptCount = 0;
    private int time = 0;

    public WireField() {
        for (int i = 0; i < MACROS; i++) {
            macros[i] = new Text();
        }
        for (int i = 0; i < MOST_SOURCES; i++) {
            sources[i] = new Source();
        }
        for (int i = 0; i < MOST_PROBES; i++) {
            probes[i] = new Probe();
        }
        for (int i = 0; i < KEPT_GENERATIONS; i++) {
            moments[i] = new Moment();
        }
    }

    public boolean type(char c) {
        return line.add(c);
    }

    public int draw(int column, int row, int direction)
            throws IndexOutOfBoundsException, IllegalArgumentException, UnsupportedOperationException {
        if (!isWithin(column, row) || direction < 0 || direction >= DIRECTIONS) {
            throw new IndexOutOfBoundsException("there is no such cell or direction");
        }
        if (!line.isOrders(MACROS) || !macrosOfLineAreThere()) {
            throw new IllegalArgumentException("the line can not be drawn");
        }
        pen.begin(field, column, row, direction);
        if (!perform(line, 0, line.length, 1)) {
            throw new UnsupportedOperationException("the line leads beyond the field or does too many orders");
        }
        field.takeFrom(pen.sheet);
        line.clear();
        forgetHistory();
        return pen.ordersDone;
    }

    public void macro(int letter) throws IndexOutOfBoundsException, IllegalArgumentException {
        if (letter < 0 || letter >= MACROS) {
            throw new IndexOutOfBoundsException("there is no such macro");
        }
        if (!line.isOrders(letter)) {
            throw new IllegalArgumentException("the line can not be this macro");
        }
        macros[letter].takeFrom(line);
        macroIsThere[letter] = true;
        line.clear();
    }

    public void wipe() {
        line.clear();
    }

    public boolean set(int column, int row, int value) {
        if (!isWithin(column, row) || value < EMPTY || value > WIRE) {
            return false;
        }
        field.put(column, row, value);
        forgetHistory();
        return true;
    }

    public int cell(int column, int row) {
        return field.valueAt(column, row);
    }

    public boolean copy(int column, int row, int width, int height, int toColumn, int toRow, int turns) {
        if (turns < 0 || turns >= DIRECTIONS || !isPiece(column, row, width, height)) {
            return false;
        }
        boolean liesAcross = turns % 2 == 1;
        int copyWidth = liesAcross ? height : width;
        int copyHeight = liesAcross ? width : height;
        if (!isPiece(toColumn, toRow, copyWidth, copyHeight)) {
            return false;
        }
        draft.takeFrom(field);
        putTurned(column, row, width, height, toColumn, toRow, turns);
        forgetHistory();
        return true;
    }

    public int source(int column, int row, long pattern, int n) {
        if (!isWithin(column, row) || n < 1 || n > LONGEST_PATTERN || sourceCount >= MOST_SOURCES) {
            return REFUSED;
        }
        sources[sourceCount].begin(column, row, pattern, n);
        sourceCount++;
        return sourceCount - 1;
    }

    public int probe(int column, int row) {
        if (!isWithin(column, row) || probeCount >= MOST_PROBES) {
            return REFUSED;
        }
        probes[probeCount].begin(column, row);
        probeCount++;
        return probeCount - 1;
    }

    public int run(int n) {
        if (n < 1 || n > LONGEST_RUN) {
            return REFUSED;
        }
        for (int i = 0; i < n; i++) {
            makeGeneration();
        }
        return field.count(HEAD);
    }

    public boolean back(int n) {
        if (n < 1 || n > keptCount) {
            return false;
        }
        time -= n;
        keptCount -= n;
        Moment then = momentAt(time);
        field.takeFrom(then.grid);
        for (int i = 0; i < MOST_SOURCES; i++) {
            sources[i].place = then.places[i];
        }
        return true;
    }

    public int period() {
        for (int p = 1; p <= keptCount; p++) {
            if (field.isSameAs(momentAt(time - p).grid)) {
                return p;
            }
        }
        return 0;
    }

    public int seen(int probe, int what) throws IndexOutOfBoundsException {
        if (probe < 0 || probe >= probeCount || what < 0 || what > 1) {
            throw new IndexOutOfBoundsException("there is no such probe or what");
        }
        return what == 0 ? probes[probe].headCount : probes[probe].latestTime;
    }

    public long record(int probe) {
        return probe >= 0 && probe < probeCount ? probes[probe].headBits : 0L;
    }

    public int look(int what) {
        switch (what) {
            case 0:
                return time;
            case 1:
                return field.count(HEAD);
            case 2:
                return field.count(TAIL);
            case 3:
                return field.count(WIRE);
            case 4:
                return keptCount;
            case 5:
                return sourceCount;
            case 6:
                return probeCount;
            case 7:
                return line.length;
            default:
                return REFUSED;
        }
    }

    private static boolean isWithin(int column, int row) {
        return column >= 0 && column < COLUMNS && row >= 0 && row < ROWS;
    }

    /** The sizes are held against what is left of the field, since a sum could wrap around. */
    private static boolean isPiece(int column, int row, int width, int height) {
        return isWithin(column, row)
                && width >= 1 && width <= COLUMNS - column
                && height >= 1 && height <= ROWS - row;
    }

    private void putTurned(int column, int row, int width, int height, int toColumn, int toRow, int turns) {
        for (int y = 0; y < height; y++) {
            for (int x = 0; x < width; x++) {
                int value = draft.valueAt(column + x, row + y);
                if (value != EMPTY) {
                    int turnedColumn = toColumn + turnedX(x, y, width, height, turns);
                    int turnedRow = toRow + turnedY(x, y, width, height, turns);
                    field.put(turnedColumn, turnedRow, value);
                }
            }
        }
    }

    private static int turnedX(int x, int y, int width, int height, int turns) {
        switch (turns) {
            case 1:
                return height - 1 - y;
            case 2:
                return width - 1 - x;
            case 3:
                return y;
            default:
                return x;
        }
    }

    private static int turnedY(int x, int y, int width, int height, int turns) {
        switch (turns) {
            case 1:
                return x;
            case 2:
                return height - 1 - y;
            case 3:
                return width - 1 - x;
            default:
                return y;
        }
    }

    private void forgetHistory() {
        keptCount = 0;
    }

    /** As many moments as generations are kept, so the time itself tells which one belongs to it. */
    private Moment momentAt(int generation) {
        return moments[Math.floorMod(generation, KEPT_GENERATIONS)];
    }

    private void makeGeneration() {
        keepMoment();
        for (int i = 0; i < sourceCount; i++) {
            sources[i].actOn(field);
        }
        draft.becomeGenerationAfter(field);
        field.takeFrom(draft);
        time++;
        for (int i = 0; i < probeCount; i++) {
            probes[i].lookAt(field, time);
        }
    }

    private void keepMoment() {
        Moment now = momentAt(time);
        now.grid.takeFrom(field);
        for (int i = 0; i < MOST_SOURCES; i++) {
            now.places[i] = sources[i].place;
        }
        keptCount = Math.min(keptCount + 1, KEPT_GENERATIONS);
    }

    /** Goes from the last letter down, since a macro holds none but earlier letters. */
    private boolean macrosOfLineAreThere() {
        int needed = line.heldMacros();
        for (int letter = MACROS - 1; letter >= 0; letter--) {
            if ((needed >> letter & 1) == 1) {
                if (!macroIsThere[letter]) {
                    return false;
                }
                needed |= macros[letter].heldMacros();
            }
        }
        return true;
    }

    /** Does the orders of a text from one place up to another; false if the drawing ends with an error. */
    private boolean perform(Text text, int from, int to, int depth) {
        if (depth > DEEPEST_ORDERS) {
            return false;
        }
        int at = from;
        for (int read = 0; read < LONGEST_TEXT && at < to; read++) {
            int times = text.timesAt(at);
            int order = at + text.digitsAt(at);
            int end = text.behindOrder(order);
            if (end < 0) {
                return false;
            }
            for (int i = 0; i < times; i++) {
                if (!performOrder(text, order, end, depth)) {
                    return false;
                }
            }
            at = end;
        }
        return true;
    }

    private boolean performOrder(Text text, int at, int end, int depth) {
        if (!pen.countOrder()) {
            return false;
        }
        switch (text.signAt(at)) {
            case '(':
                return performBranch(text, at + 1, end - 1, depth + 1);
            case '[':
                return perform(text, at + 1, end - 1, depth + 1);
            case '@':
                return performMacro(text.signAt(at + 1) - 'a', depth + 1);
            default:
                return pen.obey(text.signAt(at));
        }
    }

    private boolean performBranch(Text text, int from, int to, int depth) {
        int column = pen.column;
        int row = pen.row;
        int direction = pen.direction;
        boolean isDown = pen.isDown;
        boolean done = perform(text, from, to, depth);
        pen.column = column;
        pen.row = row;
        pen.direction = direction;
        pen.isDown = isDown;
        return done;
    }

    private boolean performMacro(int letter, int depth) {
        if (letter < 0 || letter >= MACROS) {
            return false;
        }
        return perform(macros[letter], 0, macros[letter].length, depth);
    }

    /** The cells, as one row of bits for each content that is not EMPTY: a whole row goes on at once. */
    private static final class Grid {
        private final int[] heads = new int[ROWS];
        private final int[] tails = new int[ROWS];
        private final int[] wires = new int[ROWS];

        int valueAt(int column, int row) {
            if (!isWithin(column, row)) {
                return NO_CELL;
            }
            if ((heads[row] >>> column & 1) == 1) {
                return HEAD;
            }
            if ((tails[row] >>> column & 1) == 1) {
                return TAIL;
            }
            return (wires[row] >>> column & 1) == 1 ? WIRE : EMPTY;
        }

        void put(int column, int row, int value) {
            if (!isWithin(column, row)) {
                return;
            }
            int bit = 1 << column;
            heads[row] = value == HEAD ? heads[row] | bit : heads[row] & ~bit;
            tails[row] = value == TAIL ? tails[row] | bit : tails[row] & ~bit;
            wires[row] = value == WIRE ? wires[row] | bit : wires[row] & ~bit;
        }

        void takeFrom(Grid other) {
            System.arraycopy(other.heads, 0, heads, 0, ROWS);
            System.arraycopy(other.tails, 0, tails, 0, ROWS);
            System.arraycopy(other.wires, 0, wires, 0, ROWS);
        }

        boolean isSameAs(Grid other) {
            for (int row = 0; row < ROWS; row++) {
                if (heads[row] != other.heads[row]
                        || tails[row] != other.tails[row]
                        || wires[row] != other.wires[row]) {
                    return false;
                }
            }
            return true;
        }

        int count(int value) {
            int sum = 0;
            for (int row = 0; row < ROWS; row++) {
                int bits = value == HEAD ? heads[row] : value == TAIL ? tails[row] : wires[row];
                sum += Integer.bitCount(bits);
            }
            return sum;
        }

        void becomeGenerationAfter(Grid before) {
            for (int row = 0; row < ROWS; row++) {
                int kindled = before.wires[row] & before.besideOneOrTwoHeads(row);
                heads[row] = kindled;
                tails[row] = before.heads[row];
                wires[row] = before.wires[row] & ~kindled | before.tails[row];
            }
        }

        /** Right for WIREs alone: a cell itself is counted among its neighbours, and a WIRE is no HEAD. */
        private int besideOneOrTwoHeads(int row) {
            int one = 0;
            int two = 0;
            int three = 0;
            for (int r = Math.max(row - 1, 0); r <= row + 1 && r < ROWS; r++) {
                for (int side = 0; side < 3; side++) {
                    int near = side == 0 ? heads[r] << 1 : side == 1 ? heads[r] : heads[r] >>> 1;
                    three |= two & near;
                    two |= one & near;
                    one |= near;
                }
            }
            return one & ~three;
        }
    }

    /** The line, or a macro. */
    private static final class Text {
        private final char[] signs = new char[LONGEST_TEXT];
        private int length = 0;

        boolean add(char sign) {
            if (sign < 33 || sign > 126 || length >= LONGEST_TEXT) {
                return false;
            }
            signs[length] = sign;
            length++;
            return true;
        }

        void clear() {
            length = 0;
        }

        void takeFrom(Text other) {
            System.arraycopy(other.signs, 0, signs, 0, LONGEST_TEXT);
            length = other.length;
        }

        char signAt(int at) {
            return at >= 0 && at < length ? signs[at] : 0;
        }

        int digitsAt(int at) {
            if (!isDigit(signAt(at))) {
                return 0;
            }
            return isDigit(signAt(at + 1)) ? 2 : 1;
        }

        int timesAt(int at) {
            switch (digitsAt(at)) {
                case 1:
                    return signAt(at) - '0';
                case 2:
                    return (signAt(at) - '0') * 10 + signAt(at + 1) - '0';
                default:
                    return 1;
            }
        }

        private static boolean isDigit(char sign) {
            return sign >= '0' && sign <= '9';
        }

        /** Whether it is a row of ORDERS that holds no macros but the first so many letters. */
        boolean isOrders(int letters) {
            return endOfOrders(0, 0, letters) == length;
        }

        /** The place behind the order, with all that is in it, that begins at a place; -1 if there is none. */
        int behindOrder(int at) {
            return endOfOrder(at, 0, MACROS);
        }

        /** One bit for each letter. */
        int heldMacros() {
            int held = 0;
            for (int at = 0; at < length; at++) {
                int letter = signAt(at + 1) - 'a';
                if (signAt(at) == '@' && letter >= 0 && letter < MACROS) {
                    held |= 1 << letter;
                }
            }
            return held;
        }

        /** The place of the closing bracket or end where a row of ORDERS ends, -1 if there is none. */
        private int endOfOrders(int from, int depth, int letters) {
            int at = from;
            for (int read = 0; read < LONGEST_TEXT && at >= 0 && at < length && !isClosing(signAt(at)); read++) {
                at = endOfOrder(at + digitsAt(at), depth, letters);
            }
            return at;
        }

        private int endOfOrder(int at, int depth, int letters) {
            char sign = signAt(at);
            if (sign == '(') {
                return endOfBracket(at + 1, ')', depth + 1, letters);
            }
            if (sign == '[') {
                return endOfBracket(at + 1, ']', depth + 1, letters);
            }
            if (sign == '@') {
                int letter = signAt(at + 1) - 'a';
                return letter >= 0 && letter < letters ? at + 2 : -1;
            }
            return ORDERS_OF_ONE_SIGN.indexOf(sign) >= 0 ? at + 1 : -1;
        }

        private int endOfBracket(int from, char closing, int depth, int letters) {
            if (depth > DEEPEST_BRACKETS) {
                return -1;
            }
            int end = endOfOrders(from, depth, letters);
            return end >= 0 && signAt(end) == closing ? end + 1 : -1;
        }

        private static boolean isClosing(char sign) {
            return sign == ')' || sign == ']';
        }
    }

    private static final class Pen {
        /** The pen draws on a sheet of its own, so that a drawing that ends with an error changes nothing. */
        private final Grid sheet = new Grid();
        private int column = 0;
        private int row = 0;
        private int direction = 0;
        private boolean isDown = true;
        private int ordersDone = 0;

        void begin(Grid before, int atColumn, int atRow, int towards) {
            sheet.takeFrom(before);
            column = atColumn;
            row = atRow;
            direction = towards;
            isDown = true;
            ordersDone = 0;
        }

        boolean countOrder() {
            if (ordersDone >= MOST_ORDERS) {
                return false;
            }
            ordersDone++;
            return true;
        }

        /** Does an order of one sign; false if it leads beyond the field. */
        boolean obey(char order) {
            switch (order) {
                case 'F':
                    return drawForward();
                case 'B':
                    return move(-1);
                case 'R':
                    direction = (direction + 1) % DIRECTIONS;
                    return true;
                case 'L':
                    direction = (direction + 3) % DIRECTIONS;
                    return true;
                case 'U':
                    isDown = false;
                    return true;
                case 'D':
                    isDown = true;
                    return true;
                case 'E':
                    putElectron();
                    return true;
                case 'W':
                    sheet.put(column, row, EMPTY);
                    return true;
                case '<':
                    return drawDiode();
                default:
                    return false;
            }
        }

        private int columnAt(int forward, int aside) {
            return column + forward * COLUMN_STEPS[direction] + aside * COLUMN_STEPS[(direction + 1) % DIRECTIONS];
        }

        private int rowAt(int forward, int aside) {
            return row + forward * ROW_STEPS[direction] + aside * ROW_STEPS[(direction + 1) % DIRECTIONS];
        }

        private boolean hasCell(int forward, int aside) {
            return isWithin(columnAt(forward, aside), rowAt(forward, aside));
        }

        private void mark(int forward, int aside) {
            if (isDown) {
                sheet.put(columnAt(forward, aside), rowAt(forward, aside), WIRE);
            }
        }

        private boolean move(int forward) {
            int toColumn = columnAt(forward, 0);
            int toRow = rowAt(forward, 0);
            if (!isWithin(toColumn, toRow)) {
                return false;
            }
            column = toColumn;
            row = toRow;
            return true;
        }

        private boolean drawForward() {
            if (!move(1)) {
                return false;
            }
            mark(0, 0);
            return true;
        }

        private void putElectron() {
            sheet.put(column, row, HEAD);
            int behindColumn = columnAt(-1, 0);
            int behindRow = rowAt(-1, 0);
            if (sheet.valueAt(behindColumn, behindRow) == WIRE) {
                sheet.put(behindColumn, behindRow, TAIL);
            }
        }

        private boolean drawDiode() {
            if (!hasCell(4, 0) || !hasCell(2, -1) || !hasCell(2, 1)) {
                return false;
            }
            mark(1, 0);
            mark(2, -1);
            mark(2, 1);
            mark(3, -1);
            mark(3, 0);
            mark(3, 1);
            mark(4, 0);
            return move(4);
        }
    }

    private static final class Source {
        private int column = 0;
        private int row = 0;
        private long pattern = 0L;
        private int patternLength = 1;
        private int place = 0;

        void begin(int atColumn, int atRow, long bits, int bitCount) {
            column = atColumn;
            row = atRow;
            pattern = bits;
            patternLength = bitCount;
            place = 0;
        }

        void actOn(Grid grid) {
            if ((pattern >>> place & 1L) == 1L && grid.valueAt(column, row) == WIRE) {
                grid.put(column, row, HEAD);
            }
            place = place + 1 < patternLength ? place + 1 : 0;
        }
    }

    private static final class Probe {
        private int column = 0;
        private int row = 0;
        private int headCount = 0;
        private int latestTime = -1;
        private long headBits = 0L;

        void begin(int atColumn, int atRow) {
            column = atColumn;
            row = atRow;
        }

        void lookAt(Grid grid, int time) {
            boolean isHead = grid.valueAt(column, row) == HEAD;
            headBits = headBits * 2 + (isHead ? 1 : 0);
            if (isHead) {
                headCount++;
                latestTime = time;
            }
        }
    }

    /** What a generation began with, before the sources acted, so that it can be taken back. */
    private static final class Moment {
        private final Grid grid = new Grid();
        private final int[] places = new int[MOST_SOURCES];
    }
}
