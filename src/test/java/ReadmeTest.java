import java.io.IOException;
import java.lang.reflect.InvocationTargetException;
import java.lang.reflect.Method;
import java.nio.file.Files;
import java.nio.file.Path;
import java.util.HashMap;
import java.util.List;
import java.util.Map;
import java.util.regex.Matcher;
import java.util.regex.Pattern;

/** The example of README.md answers what README.md says: its lines are read and made, so that they stay true. */
public final class ReadmeTest {
    private static final String MAKING = "WireField field = new WireField();";
    private static final Pattern WRITING =
            Pattern.compile("for \\(char c : \"(.*)\"\\.toCharArray\\(\\)\\) field\\.type\\(c\\);");
    private static final Pattern CALL = Pattern.compile("field\\.(\\w+)\\((.*?)\\);\\s*// ([^:]*)(:.*)?");
    private static final Map<String, Method> METHODS = methods();

    public static void main(String[] args) throws IOException, IllegalAccessException {
        List<String> all = Files.readAllLines(Path.of("README.md"));
        int begin = all.indexOf("```java") + 1;
        int length = all.subList(begin, all.size()).indexOf("```");
        WireField x = new WireField();
        int calls = makeLines(x, all.subList(begin, begin + length));
        Check.due("so many calls are read, at least", calls >= 25, true);
        int picture = all.indexOf("```text") + 1;
        Check.due("the picture", Check.picture(x, 0, 9, 26, 11), String.join("/", all.subList(picture, picture + 11)));
        Check.end();
    }

    private static Map<String, Method> methods() {
        Map<String, Method> methods = new HashMap<>();
        for (Method method : WireField.class.getMethods()) {
            if (method.getDeclaringClass() == WireField.class) {
                methods.put(method.getName(), method);
            }
        }
        return methods;
    }

    /** How many of the lines are calls with an answer behind them. */
    private static int makeLines(WireField x, List<String> lines) throws IllegalAccessException {
        int calls = 0;
        for (String line : lines) {
            Matcher writing = WRITING.matcher(line);
            Matcher call = CALL.matcher(line);
            if (writing.matches()) {
                Check.write(x, writing.group(1));
            } else if (call.matches()) {
                Check.due(line, answer(x, METHODS.get(call.group(1)), call.group(2)), call.group(3).trim());
                calls++;
            } else {
                boolean known = line.isEmpty() || line.startsWith("// ") || line.equals(MAKING);
                Check.due("a line that can be read: " + line, known, true);
            }
        }
        return calls;
    }

    private static String answer(WireField x, Method method, String arguments) throws IllegalAccessException {
        String[] texts = arguments.isEmpty() ? new String[0] : arguments.split(", ");
        Object[] values = new Object[texts.length];
        for (int i = 0; i < texts.length; i++) {
            boolean isLong = method.getParameterTypes()[i] == long.class;
            if (isLong) {
                values[i] = Long.valueOf(texts[i].replace("L", ""));
            } else {
                values[i] = Integer.valueOf(texts[i]);
            }
        }
        try {
            Object answer = method.invoke(x, values);
            return answer == null ? Check.NOTHING : answer.toString();
        } catch (InvocationTargetException e) {
            return "throws " + e.getCause().getClass().getSimpleName();
        }
    }
}
