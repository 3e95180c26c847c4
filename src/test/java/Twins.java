import java.util.ArrayList;
import java.util.List;
import java.util.function.Function;
import java.util.function.Supplier;

/**
 * Two objects made by the same calls: one of them gets one more call, that must change nothing, and then both get the
 * same sequel and must look alike. There are many sequels, each on two new objects, since what a look can not see
 * (the text of the line, macros, places of sources, old fields) shows only in what comes later.
 */
final class Twins {
    /** All that the makers here and the sequels draw lies in these columns and rows, from (0, 0) on. */
    private static final int SEEN_COLUMNS = 32;
    private static final int SEEN_ROWS = 10;
    private static final List<Function<WireField, String>> SEQUELS = sequels();

    private Twins() {
    }

    /** Electrons on wires, two sources, two probes, macros a, b and d (d holds c, that is not there), 13 kept. */
    static WireField busy(String line) {
        WireField x = new WireField();
        Check.draw(x, "8FR3FR8F(E)R2F", 1, 1, 1);
        Check.draw(x, "4F<F", 10, 7, 1);
        x.source(2, 1, 37L, 7);
        x.source(11, 7, 9L, 11);
        x.probe(9, 3);
        x.probe(13, 7);
        Check.macro(x, "2FE", 0);
        Check.macro(x, "@aR@a", 1);
        Check.macro(x, "[@c]", 3);
        x.run(20);
        x.back(3);
        Check.write(x, line);
        return x;
    }

    static WireField busy() {
        return busy("2FRF");
    }

    /** Four sources, four probes, sixty characters, and sixteen generations that can be taken back. */
    static WireField full() {
        WireField x = busy("R".repeat(60));
        x.source(4, 1, 1L, 64);
        x.source(5, 4, -2L, 3);
        x.probe(2, 4);
        x.probe(14, 7);
        x.run(16);
        return x;
    }

    /** That a call answers what is due, and changes nothing. */
    static void changesNothing(String call, Supplier<WireField> maker, Function<WireField, String> asked, String due) {
        for (int i = 0; i < SEQUELS.size(); i++) {
            WireField changed = maker.get();
            WireField left = maker.get();
            Check.due(call, asked.apply(changed), due);
            Check.due("sequel " + i + " after " + call, SEQUELS.get(i).apply(changed), SEQUELS.get(i).apply(left));
            Check.due("what is seen in sequel " + i + " after " + call, seen(changed), seen(left));
        }
    }

    private static List<Function<WireField, String>> sequels() {
        List<Function<WireField, String>> all = new ArrayList<>();
        all.add(x -> "");
        for (String ending : new String[] {"", "F", ")", "]"}) {
            all.add(x -> finishAndDraw(x, ending));
        }
        for (String text : new String[] {"@a", "@b", "@c", "@d", "FUF"}) {
            all.add(x -> Check.draw(x, text, 3, 6, 1));
        }
        for (int n = 1; n <= 17; n++) {
            int generations = n;
            all.add(x -> Boolean.toString(x.back(generations)));
            all.add(x -> x.back(generations) + " " + x.run(30));
        }
        all.add(x -> Integer.toString(x.run(1)));
        all.add(x -> Integer.toString(x.run(60)));
        all.add(x -> x.source(8, 4, 5L, 6) + " " + x.run(20));
        all.add(x -> x.probe(8, 4) + " " + x.run(20));
        return all;
    }

    private static String finishAndDraw(WireField x, String ending) {
        for (int i = 0; i < ending.length(); i++) {
            x.type(ending.charAt(i));
        }
        return Check.drawLine(x, 3, 6, 1);
    }

    private static String seen(WireField x) {
        String picture = Check.picture(x, 0, 0, SEEN_COLUMNS, SEEN_ROWS);
        int seen = picture.replaceAll("[./]", "").length();
        Check.due("cells that are not EMPTY, outside of what is seen", x.look(1) + x.look(2) + x.look(3) - seen, 0);
        return picture + Check.numbers(x);
    }
}
