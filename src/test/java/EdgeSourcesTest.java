/** The boundary sentences of the term SOURCES. */
public final class EdgeSourcesTest {
    public static void main(String[] args) {
        atMostFour();
        oneToSixtyFourBits();
        behindTheLastBitComesTheFirstOne();
        bitsBeyondThePatternAreNotThere();
        theLowestBitIsTheFirst();
        onlyAWireBecomesHead();
        thePlaceGoesOnOverEmptyCells();
        takenBackOverTheEndOfThePattern();
        Check.end();
    }

    /** "SOURCES (at most 4)": the fourth one acts, the fifth one is not there. */
    private static void atMostFour() {
        WireField x = new WireField();
        for (int i = 0; i < 5; i++) {
            x.set(i * 3, 5, 3);
            Check.due("source number " + i, x.source(i * 3, 5, 1L, 1), i < 4 ? i : -1);
            Check.due("look(5)", x.look(5), i < 4 ? i + 1 : 4);
        }
        x.run(1);
        for (int i = 0; i < 5; i++) {
            Check.due("the cell of source " + i, x.cell(i * 3, 5), i < 4 ? 2 : 3);
        }
        Check.due("a fifth one later", x.source(1, 1, 1L, 1), -1);
        x.back(1);
        Check.due("a fifth one when taken back", x.source(1, 1, 1L, 1), -1);
    }

    /** "a PATTERN of 1 to 64 bits" */
    private static void oneToSixtyFourBits() {
        for (int n = -1; n <= 66; n++) {
            WireField x = new WireField();
            boolean taken = n >= 1 && n <= 64;
            Check.due("a pattern of " + n + " bits", x.source(0, 0, 1L, n), taken ? 0 : -1);
            Check.due("look(5)", x.look(5), taken ? 1 : 0);
        }
    }

    /** A lone WIRE is TAIL behind each generation before which its source made it HEAD: the times of those. */
    private static String times(long pattern, int n, int generations) {
        WireField x = new WireField();
        x.set(7, 7, 3);
        x.source(7, 7, pattern, n);
        StringBuilder all = new StringBuilder();
        for (int time = 1; time <= generations; time++) {
            x.run(1);
            if (x.cell(7, 7) == 2) {
                all.append(' ').append(time);
            }
        }
        return all.toString();
    }

    /** "behind the last bit comes the first one" */
    private static void behindTheLastBitComesTheFirstOne() {
        for (int n = 3; n <= 64; n++) {
            Check.due("the last of " + n, times(1L << n - 1, n, 3 * n), " " + n + " " + 2 * n + " " + 3 * n);
            Check.due("the first of " + n, times(1L, n, 2 * n + 1), " 1 " + (n + 1) + " " + (2 * n + 1));
        }
        Check.due("the only one of 1", times(1L, 1, 6), " 1 3 5");
        Check.due("the first of 2", times(1L, 2, 6), " 1 3 5");
        Check.due("the last of 2", times(2L, 2, 6), " 2 4 6");
    }

    /** "with the lowest n bits of a number": the bit behind the last is not asked. */
    private static void bitsBeyondThePatternAreNotThere() {
        for (int n = 1; n <= 63; n++) {
            Check.due("bits from " + n + " on of a pattern of " + n, times(-1L << n, n, 130), "");
        }
        Check.due("all bits, but 1 of them is asked", times(-1L, 1, 5), times(1L, 1, 5));
        Check.due("the 64th bit is asked", times(Long.MIN_VALUE, 64, 130), " 64 128");
    }

    /** "if the bit at its place (0 the lowest) is 1", "a PLACE in it, at first 0" */
    private static void theLowestBitIsTheFirst() {
        for (int place = 0; place < 64; place++) {
            Check.due("bit " + place, times(1L << place, 64, 64), " " + (place + 1));
        }
        Check.due("no bit", times(0L, 64, 130), "");
    }

    /** "and the cell is WIRE, it becomes HEAD": EMPTY, HEAD and TAIL go on as without a source. */
    private static void onlyAWireBecomesHead() {
        int[] then = {0, 2, 3, 2};
        for (int value = 0; value <= 3; value++) {
            WireField x = new WireField();
            x.set(31, 23, value);
            x.source(31, 23, 1L, 64);
            x.run(1);
            Check.due("a source on " + value, x.cell(31, 23), then[value]);
        }
    }

    /** "the place goes on by 1", also where the cell can not become HEAD. */
    private static void thePlaceGoesOnOverEmptyCells() {
        for (int n = 1; n <= 64; n += 9) {
            WireField x = new WireField();
            x.source(0, 23, 1L, n);
            for (int i = 1; i < n; i++) {
                x.run(1);
            }
            x.set(0, 23, 3);
            x.run(1);
            Check.due("at the last of " + n, x.cell(0, 23), n == 1 ? 2 : 3);
            x.run(1);
            Check.due("at the first of " + n, x.cell(0, 23), n == 1 ? 3 : 2);
        }
    }

    /** "(Sources stand as they were then.)", where the place had gone from the last bit to the first. */
    private static void takenBackOverTheEndOfThePattern() {
        for (int n = 3; n <= 64; n++) {
            for (int taken = 1; taken <= 16; taken += 5) {
                WireField x = new WireField();
                x.set(7, 7, 3);
                x.source(7, 7, 1L, n);
                x.run(n <= 60 ? n : 60);
                x.run(n <= 60 ? 1 : n - 60 + 1);
                Check.due("the first bit of " + n + " again", x.cell(7, 7), 2);
                boolean can = taken <= n + 1;
                Check.due("back(" + taken + ")", x.back(taken), can);
                if (can) {
                    x.run(taken);
                    Check.due("the first bit of " + n + " once more", x.cell(7, 7), 2);
                }
            }
        }
    }
}
