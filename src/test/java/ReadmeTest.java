import java.io.IOException;
import java.nio.file.Files;
import java.nio.file.Path;
import java.util.ArrayList;
import java.util.List;
import java.util.TreeSet;
import java.util.regex.Matcher;
import java.util.regex.Pattern;

/** README.md: its example answers as it says, and its table has every call with the document's refusals. */
public final class ReadmeTest {
    private static final Pattern EXAMPLE = Pattern.compile("(?s)```java\n(.*?)```");
    private static final Pattern MADE = Pattern.compile("KnotCaller x = new KnotCaller\\((-?\\d+)\\);.*");
    private static final Pattern CALL = Pattern.compile(
            "x\\.(\\w+)\\(([-\\d, ]*)\\);\\s+// (-?\\d+|Illegal\\w+): .*");
    private static final Pattern ROW = Pattern.compile(
            "(?m)^\\| `(\\w+\\([^)]*\\))` \\| (?:[^|]*) \\| ([^|]*) \\|$");
    private static final Pattern PROMISED = Pattern.compile("`(?:int|long) (\\w+\\([^)]*\\))[^`]*`: (.*)");
    private static final Pattern REFUSAL = Pattern.compile("-\\d+|Illegal\\w+");

    public static void main(String[] args) throws IOException {
        String readme = Files.readString(Path.of("README.md"));
        exampleAnswersAsItSays(readme);
        tableIsTheDocuments(readme, Document.read());
        Checks.end();
    }

    private static void exampleAnswersAsItSays(String readme) {
        Matcher example = EXAMPLE.matcher(readme);
        Checks.due(example.find() ? 1 : 0, 1);
        String[] lines = example.group(1).split("\n");
        Matcher made = MADE.matcher(lines[0]);
        Checks.due(made.matches() ? 1 : 0, 1);
        KnotCaller x = new KnotCaller(Integer.parseInt(made.group(1)));
        for (int i = 1; i < lines.length; i++) {
            Matcher call = CALL.matcher(lines[i]);
            if (!call.matches()) {
                Checks.fail("no answer is told: " + lines[i]);
                continue;
            }
            String words = (call.group(1) + " " + call.group(2).replace(",", "")).trim();
            String got = Calls.answer(x, words).replace("throws.", "");
            Checks.due(lines[i].trim() + " -> " + got, lines[i].trim() + " -> " + call.group(3));
        }
    }

    private static void tableIsTheDocuments(String readme, Document document) {
        List<String> told = new ArrayList<>();
        Matcher row = ROW.matcher(readme);
        while (row.find()) {
            told.add(row.group(1) + " " + refusalsIn(row.group(2)));
        }
        List<String> promised = new ArrayList<>();
        for (int promise = 2; promise <= Document.PROMISES; promise++) {
            Matcher says = PROMISED.matcher(document.promise(promise));
            Checks.due(says.find() ? 1 : 0, 1);
            promised.add(says.group(1).replace("int ", "") + " " + refusalsIn(says.group(2)));
        }
        Checks.due(told.size(), promised.size());
        for (int i = 0; i < Math.min(told.size(), promised.size()); i++) {
            Checks.due(told.get(i), promised.get(i));
        }
    }

    private static TreeSet<String> refusalsIn(String text) {
        TreeSet<String> refusals = new TreeSet<>();
        Matcher refusal = REFUSAL.matcher(text);
        while (refusal.find()) {
            refusals.add(refusal.group());
        }
        return refusals;
    }
}
