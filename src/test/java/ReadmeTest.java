import java.io.IOException;
import java.lang.reflect.Method;
import java.lang.reflect.Modifier;
import java.nio.charset.StandardCharsets;
import java.nio.file.Files;
import java.nio.file.Path;
import java.util.ArrayList;
import java.util.List;
import java.util.TreeSet;
import java.util.regex.Matcher;
import java.util.regex.Pattern;

/** README.md: its example answers what it says, and its tables tell every call and no other. */
public final class ReadmeTest {
    // A call as a table tells it: its name, and the names of its numbers.
    private static final Pattern CALL = Pattern.compile("`(\\w+)\\(([\\w, ]*)\\)`");

    private static final List<String> example = new ArrayList<>();

    public static void main(String[] args) throws IOException {
        List<String> lines = Files.readAllLines(Path.of("README.md"), StandardCharsets.UTF_8);
        example.addAll(lines.subList(lines.indexOf("```java") + 1, lines.indexOf("```")));
        runExample();
        Due.due("lines of the example that no test ran", example, List.of());
        Due.due("calls in the tables", told(lines), face());
        Due.end();
    }

    private static void runExample() {
        GooseCodex codex = new GooseCodex();
        example.remove("GooseCodex codex = new GooseCodex();");
        int gate = codex.addGate(5);
        answers("int gate = codex.addGate(5);", gate);
        answers("codex.addGoose(gate, 4);", codex.addGoose(gate, 4));
        int guest = codex.arrive(2, 6, 1);
        answers("int guest = codex.arrive(2, 6, 1);", guest);
        answers("codex.hissAt(guest);", codex.hissAt(guest));
        answers("codex.dares(guest);", codex.dares(guest));
        answers("codex.beatsUntilIn(guest);", codex.beatsUntilIn(guest));
        answers("codex.passBeats(2);", codex.passBeats(2));
    }

    /** The example's first line left is this code, with this answer told behind it. */
    private static void answers(String code, Object answer) {
        String line = example.isEmpty() ? "" : example.remove(0);
        String told = line.replaceFirst(" +// (\\w+): .*", " -> $1");
        Due.due("the example", told, code + " -> " + answer);
    }

    private static TreeSet<String> told(List<String> lines) {
        TreeSet<String> all = new TreeSet<>();
        for (String line : lines) {
            Matcher call = CALL.matcher(line.startsWith("| `") ? line.split("\\|")[1] : "");
            while (call.find()) {
                int numbers = call.group(2).isEmpty() ? 0 : call.group(2).split(", ").length;
                all.add(call.group(1) + "/" + numbers);
            }
        }
        return all;
    }

    private static TreeSet<String> face() {
        TreeSet<String> all = new TreeSet<>();
        for (Method method : GooseCodex.class.getDeclaredMethods()) {
            if (Modifier.isPublic(method.getModifiers())) {
                all.add(method.getName() + "/" + method.getParameterCount());
            }
        }
        return all;
    }
}
