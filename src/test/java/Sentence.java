import java.io.IOException;
import java.nio.charset.StandardCharsets;
import java.nio.file.Files;
import java.nio.file.Path;
import java.util.ArrayList;
import java.util.LinkedHashMap;
import java.util.List;
import java.util.Map;
import java.util.regex.Matcher;
import java.util.regex.Pattern;

/** The document's sentences, as the edge tests quote them, and which of them nobody quotes. */
final class Sentence {
    private static final Path DOCUMENT = Path.of("..", "shared", "DOC.md");

    // What a sentence that names a boundary case has in it.
    private static final Pattern EDGE = Pattern.compile("-?\\d+"
            + "|\\b(if|or|without|nothing|several|at most|at least|up to|wraps|in the farm)\\b");

    private static final Map<String, List<String>> parts = read();
    private static final Map<String, List<String>> quotes = new LinkedHashMap<>();

    private Sentence() {
    }

    /** What is due from here on is due by this sentence of this part, such as "Promise 2". */
    static void of(String part, String quote) {
        Due.about(part + ", \"" + quote + "\": ");
        quotes.computeIfAbsent(part, key -> new ArrayList<>()).add(quote);
        if (!parts.isEmpty()) {
            boolean stands = false;
            for (String line : parts.getOrDefault(part, List.of())) {
                stands |= line.contains(quote);
            }
            Due.due("does it stand in the document", stands, true);
        }
    }

    static void ofPromise(int promise, String quote) {
        of("Promise " + promise, quote);
    }

    /** Each boundary case of the document lies in a sentence that was quoted. */
    static void demandAll() {
        Due.about("");
        for (String part : parts.keySet()) {
            boolean promises = part.startsWith("Promise ");
            if (promises || part.equals("Terms") || part.equals("What it is")) {
                for (String line : parts.get(part)) {
                    Due.due(part + ", untested in: " + line, untested(part, line), List.of());
                }
            }
        }
    }

    private static List<String> untested(String part, String line) {
        boolean[] quoted = new boolean[line.length()];
        for (String quote : quotes.getOrDefault(part, List.of())) {
            int from = line.indexOf(quote);
            for (int i = 0; from >= 0 && i < quote.length(); i++) {
                quoted[from + i] = true;
            }
        }
        List<String> left = new ArrayList<>();
        Matcher edge = EDGE.matcher(line);
        while (edge.find()) {
            if (!quoted[edge.start()]) {
                left.add(edge.group());
            }
        }
        return left;
    }

    /** The lines of each part; none at all where the document is not at hand. */
    private static Map<String, List<String>> read() {
        Map<String, List<String>> all = new LinkedHashMap<>();
        try {
            List<String> lines = List.of();
            for (String line : Files.readAllLines(DOCUMENT, StandardCharsets.UTF_8)) {
                if (line.startsWith("## ")) {
                    lines = new ArrayList<>();
                    all.put(line.substring(3).split(":")[0], lines);
                } else if (!all.isEmpty()) {
                    lines.add(line);
                }
            }
        } catch (IOException e) {
            System.out.println("no document at " + DOCUMENT + ": the quotes are not compared");
        }
        return all;
    }
}
