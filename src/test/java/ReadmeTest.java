import java.lang.reflect.Method;
import java.nio.file.Files;
import java.nio.file.Path;
import java.util.HashMap;
import java.util.Map;
import java.util.regex.Matcher;
import java.util.regex.Pattern;

/** README.md shows calls with what they answer, and tells of every call: both are tried here. */
public final class ReadmeTest {
    private static final Pattern EXAMPLE = Pattern.compile("(?s)```java\n(.*?)```");
    private static final Pattern CALL =
        Pattern.compile("(?:int (\\w+) = )?x\\.(\\w+)\\((.*?)\\); *// (-?\\d+|true|false)(?::.*)?");

    private static final Checks C = new Checks();

    public static void main(String[] args) throws Exception {
        String text = Files.readString(Path.of("README.md"));
        Matcher example = EXAMPLE.matcher(text);
        C.holds("there is an example", example.find());
        runExample(example.group(1));
        C.holds("there is one example", !example.find());
        tableTellsOfEveryCall(text);
        C.end();
    }

    private static void runExample(String example) throws Exception {
        String[] lines = example.split("\n");
        C.holds("it begins with a new object", lines[0].startsWith("LossyLanes x = new LossyLanes();"));
        LossyLanes x = new LossyLanes();
        Map<String, Object> values = new HashMap<>();
        for (int i = 1; i < lines.length; i++) {
            if (lines[i].isEmpty()) {
                continue;
            }
            Matcher m = CALL.matcher(lines[i]);
            C.holds("a call with its answer: " + lines[i], m.matches());
            Object answer = call(x, m.group(2), m.group(3), values);
            C.holds(lines[i] + " answered " + answer, answer.toString().equals(m.group(4)));
            if (m.group(1) != null) {
                values.put(m.group(1), answer);
            }
        }
    }

    private static Object call(LossyLanes x, String name, String inside, Map<String, Object> values) throws Exception {
        String[] words = inside.isEmpty() ? new String[0] : inside.split(", ");
        Object[] arguments = new Object[words.length];
        for (int i = 0; i < words.length; i++) {
            arguments[i] = valueOf(words[i], values);
        }
        return method(name).invoke(x, arguments);
    }

    private static Object valueOf(String word, Map<String, Object> values) {
        if (values.containsKey(word)) {
            return values.get(word);
        }
        boolean isTruth = word.equals("true") || word.equals("false");
        return isTruth ? (Object) Boolean.valueOf(word) : Integer.valueOf(word);
    }

    private static Method method(String name) {
        for (Method m : LossyLanes.class.getMethods()) {
            if (m.getName().equals(name)) {
                return m;
            }
        }
        throw new IllegalArgumentException("README.md calls " + name + ", which is not there");
    }

    private static void tableTellsOfEveryCall(String text) {
        for (Method m : LossyLanes.class.getMethods()) {
            if (m.getDeclaringClass() != LossyLanes.class) {
                continue;
            }
            Matcher row = Pattern.compile("(?m)^\\| `" + m.getName() + "\\((.*?)\\)` \\|").matcher(text);
            boolean found = row.find();
            C.holds("the table tells of " + m.getName(), found);
            int told = !found || row.group(1).isEmpty() ? 0 : row.group(1).split(", ").length;
            C.due(m.getName() + ": arguments in the table", told, m.getParameterCount());
        }
    }
}
