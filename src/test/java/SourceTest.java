import java.nio.file.Files;
import java.nio.file.Path;
import java.util.List;
import java.util.regex.Matcher;
import java.util.regex.Pattern;

/** What a look at the text of the class can tell of LANGUAGE.md's rules. */
public final class SourceTest {
    private static final int LONGEST_METHOD = 60;
    private static final String[] BANNED = {"throw", "throws", "try", "catch", "finally", "synchronized", "assert",
        "import", "package", "volatile", "native", "\\w+Exact", "hashCode", "toString", "System(?!\\.arraycopy)", "Math\\.random",
        "Object", "Throwable", "\\w*Exception"};

    private static final Checks C = new Checks();

    public static void main(String[] args) throws Exception {
        String text = Files.readString(Path.of("src/main/java/LossyLanes.java"));
        C.holds("plain signs only", text.chars().allMatch(c -> c == '\n' || c >= 32 && c < 127));
        String code = text.replaceAll("(?s)/\\*.*?\\*/", "").replaceAll("//[^\n]*", "");
        for (String word : BANNED) {
            C.holds("no " + word, !Pattern.compile("\\b" + word + "\\b").matcher(code).find());
        }
        C.holds("no lambda, no method reference", !code.contains("->") && !code.contains("::"));
        // No clock counts the objects of a call, but where all are made can be seen.
        for (String line : code.split("\n")) {
            boolean makes = Pattern.compile("\\bnew\\b").matcher(line).find();
            C.holds("made once: " + line.trim(), !makes || line.contains("private final") || line.contains("images[k] = new Net()"));
        }
        methodsAreShort(List.of(text.split("\n")));
        C.end();
    }

    private static void methodsAreShort(List<String> lines) {
        Pattern head = Pattern.compile("^( {4}| {8})[a-z][\\w\\[\\] ]*\\(.*\\) \\{$");
        for (int i = 0; i < lines.size(); i++) {
            Matcher m = head.matcher(lines.get(i));
            if (!m.matches()) {
                continue;
            }
            int end = i + 1;
            while (end < lines.size() && !lines.get(end).equals(m.group(1) + "}")) {
                end++;
            }
            C.holds("short: " + lines.get(i).trim(), end - i < LONGEST_METHOD);
        }
    }
}
