import java.io.IOException;
import java.io.UncheckedIOException;
import java.nio.file.Files;
import java.nio.file.Path;
import java.util.ArrayList;
import java.util.List;
import java.util.Map;
import java.util.TreeMap;
import java.util.regex.Matcher;
import java.util.regex.Pattern;

/**
 * The words of the document. What a test quotes must stand there; and each number and each name of an
 * answer that stands there must have been quoted by a test, so that no edge is passed over.
 */
final class Doc {
    static final int TERMS = 0;
    private static final Path PLACE = Path.of("../shared/DOC.md");
    private static final Pattern EDGE = Pattern.compile("-?\\d+|\\b(BAD|FULL|NONE)\\b|\\bSTATE( -2|:)");

    /** The terms by 0, a promise by its number. */
    private final Map<Integer, String> parts = new TreeMap<>();
    private final Map<Integer, boolean[]> quoted = new TreeMap<>();

    Doc() {
        for (String part : wholeText().split("(?m)^## ")) {
            Matcher promise = Pattern.compile("(?s)Promise (\\d+): \\w.*?\n(.*)").matcher(part);
            if (part.startsWith("Terms\n")) {
                put(TERMS, part.substring("Terms\n".length()));
            } else if (promise.matches()) {
                put(Integer.parseInt(promise.group(1)), promise.group(2));
            }
        }
    }

    private static String wholeText() {
        try {
            return Files.readString(PLACE);
        } catch (IOException e) {
            throw new UncheckedIOException(e);
        }
    }

    private void put(int number, String words) {
        String plain = words.replaceAll("\\s+", " ").strip();
        parts.put(number, plain);
        quoted.put(number, new boolean[plain.length()]);
    }

    int promises() {
        return parts.size() - 1;
    }

    /** Whether the words stand in that part; they are quoted from now on. */
    boolean says(int number, String words) {
        String part = parts.getOrDefault(number, "");
        int at = part.indexOf(words);
        for (int i = 0; at >= 0 && i < words.length(); i++) {
            quoted.get(number)[at + i] = true;
        }
        return at >= 0;
    }

    /** The edges that stand in the document and that nobody has quoted. */
    List<String> passedOver() {
        List<String> left = new ArrayList<>();
        for (Map.Entry<Integer, String> part : parts.entrySet()) {
            String words = part.getValue();
            Matcher edge = EDGE.matcher(words);
            while (edge.find()) {
                if (!quoted.get(part.getKey())[edge.start()]) {
                    int from = Math.max(0, edge.start() - 30);
                    int to = Math.min(words.length(), edge.end() + 30);
                    left.add("part " + part.getKey() + ": .. " + words.substring(from, to) + " ..");
                }
            }
        }
        return left;
    }
}
