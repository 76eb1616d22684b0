import java.io.IOException;
import java.io.UncheckedIOException;
import java.nio.charset.StandardCharsets;
import java.nio.file.Files;
import java.nio.file.Path;
import java.util.ArrayList;
import java.util.LinkedHashMap;
import java.util.List;
import java.util.Map;
import java.util.regex.Matcher;
import java.util.regex.Pattern;

/**
 * The document's sentences by the promise they stand under (0: Terms), and how many answers were
 * looked at for each: so that none of them is without a test.
 */
final class Sentences {
    private static final Path DOCUMENT = Path.of("../shared/DOC.md");
    private static final Pattern PROMISE = Pattern.compile("(?m)^## Promise (\\d+): .*$");

    private final Map<String, Integer> looked = new LinkedHashMap<>();
    private String now = "";

    Sentences() {
        // Answers are looked at without the document, too.
        if (Files.exists(DOCUMENT)) {
            takesAll(read());
        }
    }

    private static String read() {
        try {
            return Files.readString(DOCUMENT, StandardCharsets.UTF_8);
        } catch (IOException e) {
            throw new UncheckedIOException(e);
        }
    }

    private void takesAll(String document) {
        String whole = document.substring(0, document.indexOf("## Not promised"));
        int terms = whole.indexOf("## Terms") + "## Terms".length();
        takes(0, whole.substring(terms, whole.indexOf("Ahead of the calls", terms))
                .replace("```text", "").replace("```", ""));
        Matcher m = PROMISE.matcher(whole);
        while (m.find()) {
            int end = whole.indexOf("\n## Promise", m.end());
            String body = whole.substring(m.end(), end < 0 ? whole.length() : end);
            takes(Integer.parseInt(m.group(1)), body.replaceFirst("`[^`]*`:", ""));
        }
    }

    /** At full stops; two of them (..) are none, and numbers of points are no sentences. */
    private void takes(int promise, String text) {
        for (String part : text.replaceAll("\\s+", " ").trim().split("(?<!\\.)\\.(\\s|$)")) {
            if (!part.isBlank() && !part.trim().matches("\\d+")) {
                looked.put(key(promise, part.trim()), 0);
            }
        }
    }

    private static String key(int promise, String sentence) {
        return (promise == 0 ? "Terms" : "Promise " + promise) + ": " + sentence;
    }

    /** What comes next is of this sentence; whether the document has it. */
    boolean begins(int promise, String sentence) {
        now = key(promise, sentence);
        return looked.isEmpty() || looked.containsKey(now);
    }

    void looks() {
        looked.computeIfPresent(now, (sentence, times) -> times + 1);
    }

    int number() {
        return looked.size();
    }

    List<String> withoutTest() {
        List<String> left = new ArrayList<>();
        looked.forEach((sentence, times) -> {
            if (times == 0) {
                left.add(sentence);
            }
        });
        return left;
    }
}
