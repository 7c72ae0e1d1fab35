import java.io.IOException;
import java.lang.reflect.Method;
import java.lang.reflect.Modifier;
import java.nio.file.Files;
import java.nio.file.Path;
import java.util.List;
import java.util.Set;
import java.util.TreeSet;
import java.util.regex.Matcher;
import java.util.regex.Pattern;

/** What README.md shows is what the program answers, and it tells of every call. */
public final class ReadmeTest {
    private static final Pattern SHOWN = Pattern.compile("x\\.(\\w+)\\((.*)\\);\\s+// (.*)");
    private static final Pattern ANSWER = Pattern.compile("(true|false|-?\\d+)(:.*)?");
    private static final Pattern TOLD = Pattern.compile("\\| `(\\w+)\\(.*\\)` \\|.*");

    public static void main(String[] args) throws IOException {
        List<String> lines = Files.readAllLines(Path.of("README.md"));
        Checks.due("calls are shown", example(lines) > 10, true);
        Checks.due("calls told", told(lines).toString(), face().toString());
        Checks.end("ReadmeTest");
    }

    private static int example(List<String> lines) {
        HeapClaims x = new HeapClaims();
        int shown = 0;
        for (String line : lines) {
            Matcher call = SHOWN.matcher(line);
            if (call.matches()) {
                shown++;
                String got = Answers.of(x, new PlainObject.Call(call.group(1), numbers(call.group(2))));
                Matcher answer = ANSWER.matcher(call.group(3));
                Checks.due(line, got, answer.matches() ? answer.group(1) : "");
            }
        }
        return shown;
    }

    private static int[] numbers(String args) {
        String[] words = args.isEmpty() ? new String[0] : args.split(", ");
        int[] numbers = new int[words.length];
        for (int i = 0; i < words.length; i++) {
            boolean isTrue = words[i].equals("true");
            boolean isFalse = words[i].equals("false");
            numbers[i] = isTrue ? 1 : isFalse ? 0 : Integer.parseInt(words[i]);
        }
        return numbers;
    }

    private static Set<String> told(List<String> lines) {
        Set<String> names = new TreeSet<>();
        for (String line : lines) {
            Matcher row = TOLD.matcher(line);
            if (row.matches()) {
                names.add(row.group(1));
            }
        }
        return names;
    }

    private static Set<String> face() {
        Set<String> names = new TreeSet<>();
        for (Method m : HeapClaims.class.getDeclaredMethods()) {
            if (Modifier.isPublic(m.getModifiers())) {
                names.add(m.getName());
            }
        }
        return names;
    }
}
