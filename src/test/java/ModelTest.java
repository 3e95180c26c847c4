import java.util.Random;

/**
 * Long runs of calls, always the same ones, on the program and on the plain model: every answer is compared. A run ends
 * before the 512 calls that an object is used for.
 */
public final class ModelTest {
    private static final int RUNS = 3000;
    private static final int MOST_CALLS = 512;
    private static final int MOST_CALLS_OF_A_STEP = 70;
    private static final int CALLS_OF_THE_LAST_LOOK = 190;

    private final Random random;
    private final WireField program = new WireField();
    private final PlainModel model = new PlainModel();
    private final String name;
    private int calls = 0;

    private ModelTest(int seed) {
        random = new Random(seed);
        name = "run " + seed + ": ";
    }

    public static void main(String[] args) {
        for (int seed = 1; seed <= RUNS; seed++) {
            ModelTest run = new ModelTest(seed);
            while (run.calls + MOST_CALLS_OF_A_STEP + CALLS_OF_THE_LAST_LOOK <= MOST_CALLS) {
                run.step();
            }
            run.compareAll();
            Check.due(run.name + "more calls than an object is used for", run.calls > MOST_CALLS, false);
        }
        Check.end();
    }

    /** The program, for one call. */
    private WireField program() {
        calls++;
        return program;
    }

    private void step() {
        switch (random.nextInt(24)) {
            case 0, 1, 2, 3 -> write(orders(4, 0));
            case 4 -> write(Character.toString((char) random.nextInt(140)));
            case 5, 6, 7, 8 -> drawLine();
            case 9, 10 -> macroOfLine();
            case 11 -> wipe();
            case 12 -> set();
            case 13, 14 -> copy();
            case 15 -> addSource();
            case 16 -> addProbe();
            case 17, 18, 19 -> run();
            case 20 -> back();
            case 21 -> Check.due(name + "period()", program().period(), model.period());
            case 22 -> lookAtProbes();
            default -> lookAtField(6);
        }
    }

    private int near(int low, int high) {
        return random.nextInt(12) == 0 ? low - 2 + random.nextInt(high - low + 5) : low + random.nextInt(high - low + 1);
    }

    private String orders(int most, int depth) {
        StringBuilder text = new StringBuilder();
        int count = random.nextInt(most + 1);
        for (int i = 0; i < count; i++) {
            if (random.nextInt(3) == 0) {
                text.append(random.nextInt(random.nextInt(12) == 0 ? 120 : 6));
            }
            int kind = random.nextInt(20);
            if (kind < 3 && depth < 4) {
                String inner = orders(3, depth + 1);
                text.append(kind < 2 ? '(' : '[').append(inner).append(kind < 2 ? ')' : ']');
            } else if (kind < 5) {
                text.append('@').append((char) ('a' + near(0, 3)));
            } else {
                text.append("FFFFFBRRLLUDEW<".charAt(random.nextInt(15)));
            }
        }
        return text.toString();
    }

    private void write(String text) {
        for (int i = 0; i < text.length() && i < MOST_CALLS_OF_A_STEP; i++) {
            char c = text.charAt(i);
            Check.due(name + "type of " + (int) c, program().type(c), model.type(c));
        }
    }

    private void drawLine() {
        int column = near(0, 31);
        int row = near(0, 23);
        int direction = near(0, 3);
        String due = model.draw(column, row, direction);
        Check.due(name + "draw(" + column + ", " + row + ", " + direction + ")",
                Check.drawLine(program(), column, row, direction), due);
        if (due.equals(Check.ARGUMENT)) {
            wipe();
        }
    }

    private void macroOfLine() {
        int letter = near(0, 3);
        String due = model.macro(letter);
        Check.due(name + "macro(" + letter + ")", Check.macroOfLine(program(), letter), due);
        if (!due.equals(Check.NOTHING)) {
            wipe();
        }
    }

    private void wipe() {
        program().wipe();
        model.wipe();
    }

    private void set() {
        int column = near(0, 31);
        int row = near(0, 23);
        int value = near(0, 3);
        Check.due(name + "set", program().set(column, row, value), model.set(column, row, value));
    }

    private void copy() {
        int column = near(0, 25);
        int row = near(0, 18);
        int width = near(1, 14);
        int height = near(1, 12);
        int toColumn = near(0, 25);
        int toRow = near(0, 18);
        int turns = near(0, 3);
        Check.due(name + "copy", program().copy(column, row, width, height, toColumn, toRow, turns),
                model.copy(column, row, width, height, toColumn, toRow, turns));
    }

    private void addSource() {
        int column = near(0, 31);
        int row = near(0, 23);
        for (int tries = 0; tries < 40 && model.cell(column, row) == 0; tries++) {
            column = near(0, 31);
            row = near(0, 23);
        }
        long pattern = random.nextLong();
        int n = random.nextBoolean() ? near(1, 64) : near(1, 8);
        Check.due(name + "source", program().source(column, row, pattern, n), model.source(column, row, pattern, n));
    }

    private void addProbe() {
        int column = near(0, 31);
        int row = near(0, 23);
        for (int tries = 0; tries < 40 && model.cell(column, row) == 0; tries++) {
            column = near(0, 31);
            row = near(0, 23);
        }
        Check.due(name + "probe", program().probe(column, row), model.probe(column, row));
    }

    private void run() {
        int n = random.nextInt(8) == 0 ? near(1, 60) : near(1, 9);
        Check.due(name + "run(" + n + ")", program().run(n), model.run(n));
    }

    private void back() {
        int n = near(1, 14);
        Check.due(name + "back(" + n + ")", program().back(n), model.back(n));
    }

    private void lookAtProbes() {
        for (int probe = -1; probe <= 4; probe++) {
            for (int what = -1; what <= 2; what++) {
                Check.due(name + "seen(" + probe + ", " + what + ")",
                        Check.seen(program(), probe, what), model.seen(probe, what));
            }
            Check.due(name + "record(" + probe + ")", program().record(probe), model.record(probe));
        }
    }

    /** Some of the field, and of what is beyond it, since all of it would be more calls than there are. */
    private void lookAtField(int size) {
        int left = random.nextInt(34 - size + 1) - 1;
        int top = random.nextInt(26 - size + 1) - 1;
        for (int row = top; row < top + size; row++) {
            for (int column = left; column < left + size; column++) {
                Check.due(name + "cell(" + column + ", " + row + ")", program().cell(column, row), model.cell(column, row));
            }
        }
        for (int what = -1; what <= 8; what++) {
            Check.due(name + "look(" + what + ")", program().look(what), model.look(what));
        }
    }

    private void compareAll() {
        lookAtField(12);
        lookAtProbes();
        Check.due(name + "period()", program().period(), model.period());
    }
}
