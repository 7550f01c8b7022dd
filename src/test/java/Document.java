import java.io.IOException;
import java.nio.file.Files;
import java.nio.file.Path;
import java.util.TreeMap;
import java.util.regex.Matcher;
import java.util.regex.Pattern;

/** The document's text, cut at the headings of its promises. */
final class Document {
    static final int PROMISES = 35;
    private static final Pattern HEADING = Pattern.compile("(?m)^## (?:Promise (\\d+): .*|Not promised)$");

    private final TreeMap<Integer, String> promises = new TreeMap<>();
    private String ahead = "";

    /** Reads the document in the directory that -Dshared names. */
    static Document read() throws IOException {
        String shared = System.getProperty("shared", "../shared");
        return new Document(Files.readString(Path.of(shared, "DOC.md")));
    }

    private Document(String text) {
        Matcher heading = HEADING.matcher(text);
        int promise = 0;
        int start = 0;
        while (heading.find()) {
            put(promise, text.substring(start, heading.start()));
            promise = heading.group(1) == null ? PROMISES + 1 : Integer.parseInt(heading.group(1));
            start = heading.end();
        }
        put(promise, text.substring(start));
    }

    private void put(int promise, String text) {
        if (promise == 0) {
            ahead = text;
        } else if (promise <= PROMISES) {
            promises.put(promise, text);
        }
    }

    String promise(int number) {
        return promises.getOrDefault(number, "");
    }

    boolean says(int promise, String words) {
        return promise(promise).contains(words) || ahead.contains(words);
    }
}
