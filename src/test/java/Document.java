import java.io.IOException;
import java.nio.file.Files;
import java.nio.file.Path;
import java.util.ArrayList;
import java.util.List;
import java.util.Map;
import java.util.TreeMap;
import java.util.regex.Matcher;
import java.util.regex.Pattern;

/** The document by its parts, and which of their words have been quoted by a test. */
final class Document {
    private final Map<String, String> parts = new TreeMap<>();
    private final Map<String, List<String>> quotes = new TreeMap<>();

    Document(Path file) throws IOException {
        String text = Files.readString(file);
        collect(text, "## (Promise \\d+): [^\n]*\n(.*?)(?=\n## |\\z)");
        collect(text, "==== (\\d)\\. (.*?)(?=\n==== |\nThe constants|\\z)");
        collect(text, "## (What it is)\n(.*?)(?=\n## |\\z)");
    }

    private void collect(String text, String pattern) {
        Matcher part = Pattern.compile(pattern, Pattern.DOTALL).matcher(text);
        while (part.find()) {
            parts.put(part.group(1), plain(part.group(2)));
        }
    }

    private static String plain(String text) {
        return text.replaceAll("```\\w*", " ").replaceAll("\\s+", " ").trim();
    }

    /** Whether the part has these words. */
    boolean quote(String part, String words) {
        quotes.computeIfAbsent(part, key -> new ArrayList<>()).add(words);
        return parts.getOrDefault(part, "").contains(words);
    }

    List<String> promises() {
        List<String> names = new ArrayList<>(parts.keySet());
        names.removeIf(name -> !name.startsWith("Promise"));
        return names;
    }

    /** What of a part no test has quoted, but for the head of a call and the signs between. */
    String unquoted(String part) {
        String rest = parts.getOrDefault(part, "").replaceFirst("^`[^`]*`:", "");
        List<String> longestFirst = new ArrayList<>(quotes.getOrDefault(part, List.of()));
        longestFirst.sort((a, b) -> b.length() - a.length());
        for (String words : longestFirst) {
            rest = rest.replace(words, "|");
        }
        return rest.replaceAll("[|.:;,() ]+", " ").trim();
    }
}
