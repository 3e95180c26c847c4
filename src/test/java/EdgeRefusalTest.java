import java.util.LinkedHashMap;
import java.util.Map;
import java.util.function.Function;
import java.util.function.Supplier;

/** "What throws or is refused changes nothing.": every call that can be, on a new, a busy and a full object. */
public final class EdgeRefusalTest {
    private static final Map<String, Function<WireField, String>> CALLS = calls();
    private static final Map<String, String> DUE = due();

    public static void main(String[] args) {
        eachAlone("a new one", WireField::new);
        eachAlone("a busy one", Twins::busy);
        eachAlone("a full one", Twins::full);
        allInARow("a new one", WireField::new);
        allInARow("a busy one", Twins::busy);
        allInARow("a full one", Twins::full);
        linesThatThrow();
        Check.end();
    }

    private static Map<String, Function<WireField, String>> calls() {
        Map<String, Function<WireField, String>> all = new LinkedHashMap<>();
        all.put("type(' ')", x -> Boolean.toString(x.type(' ')));
        all.put("type((char) 127)", x -> Boolean.toString(x.type((char) 127)));
        all.put("draw(32, 0, 0)", x -> Check.drawLine(x, 32, 0, 0));
        all.put("draw(0, 24, 0)", x -> Check.drawLine(x, 0, 24, 0));
        all.put("draw(0, 0, 4)", x -> Check.drawLine(x, 0, 0, 4));
        all.put("macro(-1)", x -> Check.macroOfLine(x, -1));
        all.put("macro(4)", x -> Check.macroOfLine(x, 4));
        all.put("set(32, 0, 1)", x -> Boolean.toString(x.set(32, 0, 1)));
        all.put("set(0, 0, 4)", x -> Boolean.toString(x.set(0, 0, 4)));
        all.put("cell(0, 24)", x -> Integer.toString(x.cell(0, 24)));
        all.put("copy(0, 0, 33, 1, 0, 0, 0)", x -> Boolean.toString(x.copy(0, 0, 33, 1, 0, 0, 0)));
        all.put("copy(1, 1, 9, 4, 24, 0, 0)", x -> Boolean.toString(x.copy(1, 1, 9, 4, 24, 0, 0)));
        all.put("copy(1, 1, 9, 4, 5, 5, 4)", x -> Boolean.toString(x.copy(1, 1, 9, 4, 5, 5, 4)));
        all.put("source(32, 0, 1, 1)", x -> Integer.toString(x.source(32, 0, 1L, 1)));
        all.put("source(8, 4, 1, 65)", x -> Integer.toString(x.source(8, 4, 1L, 65)));
        all.put("source(8, 4, 1, 0)", x -> Integer.toString(x.source(8, 4, 1L, 0)));
        all.put("probe(0, 24)", x -> Integer.toString(x.probe(0, 24)));
        all.put("run(0)", x -> Integer.toString(x.run(0)));
        all.put("run(61)", x -> Integer.toString(x.run(61)));
        all.put("back(0)", x -> Boolean.toString(x.back(0)));
        all.put("back(17)", x -> Boolean.toString(x.back(17)));
        all.put("seen(4, 0)", x -> Check.seen(x, 4, 0));
        all.put("seen(0, 2)", x -> Check.seen(x, 0, 2));
        all.put("record(4)", x -> Long.toString(x.record(4)));
        all.put("look(8)", x -> Integer.toString(x.look(8)));
        return all;
    }

    private static Map<String, String> due() {
        Map<String, String> all = new LinkedHashMap<>();
        for (String call : CALLS.keySet()) {
            String name = call.substring(0, call.indexOf('('));
            switch (name) {
                case "type", "set", "copy", "back" -> all.put(call, "false");
                case "draw", "macro", "seen" -> all.put(call, Check.INDEX);
                case "record" -> all.put(call, "0");
                default -> all.put(call, "-1");
            }
        }
        return all;
    }

    private static void eachAlone(String name, Supplier<WireField> maker) {
        for (Map.Entry<String, Function<WireField, String>> call : CALLS.entrySet()) {
            Twins.changesNothing(call.getKey() + " on " + name, maker, call.getValue(), DUE.get(call.getKey()));
        }
    }

    private static void allInARow(String name, Supplier<WireField> maker) {
        Twins.changesNothing("all refused calls on " + name, maker, x -> {
            StringBuilder answers = new StringBuilder();
            for (Function<WireField, String> call : CALLS.values()) {
                answers.append(call.apply(x)).append(' ');
            }
            return answers.toString();
        }, String.join(" ", DUE.values()) + " ");
    }

    /** One line after another that throws: behind each of them the drawing begins from what was there before them all. */
    private static void linesThatThrow() {
        String[] lines = {"5FE<99F", "W(E99B)", "FFX", "F@c", "99(FEWR)", "10[@bL]"};
        Twins.changesNothing("draws that throw", () -> Twins.busy(""), x -> {
            StringBuilder answers = new StringBuilder();
            for (String line : lines) {
                Check.write(x, line);
                answers.append(Check.drawLine(x, 12, 4, 1)).append(' ');
                x.wipe();
            }
            return answers.toString();
        }, String.join(" ", Check.UNSUPPORTED, Check.UNSUPPORTED, Check.ARGUMENT, Check.ARGUMENT, Check.UNSUPPORTED,
                Check.UNSUPPORTED) + " ");
    }
}
