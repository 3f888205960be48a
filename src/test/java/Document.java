import java.io.IOException;
import java.nio.file.Files;
import java.nio.file.Path;
import java.util.ArrayList;
import java.util.LinkedHashMap;
import java.util.List;
import java.util.Map;

/** The document by its sections, and which words of it the tests have named. */
final class Document {
    private final Map<String, String> sections = new LinkedHashMap<>();
    private final Map<String, List<String>> quotes = new LinkedHashMap<>();

    Document(Path file) throws IOException {
        for (String part : Files.readString(file).split("(?m)^## ")) {
            int end = part.indexOf('\n');
            sections.put(part.substring(0, end).trim(), part.substring(end + 1));
            quotes.put(part.substring(0, end).trim(), new ArrayList<>());
        }
    }

    boolean hasSection(String heading) {
        return sections.containsKey(heading);
    }

    boolean says(String heading, String quote) {
        return sections.getOrDefault(heading, "").contains(quote);
    }

    void name(String heading, String quote) {
        quotes.get(heading).add(bare(quote));
    }

    private static String bare(String words) {
        return words.replaceAll("[.;:]$", "");
    }

    /** The sentences of a section, and their parts between semicolons, that no quote names. */
    List<String> unnamed(String heading) {
        List<String> left = new ArrayList<>();
        for (String part : parts(heading)) {
            String words = bare(part);
            if (quotes.get(heading).stream().noneMatch(quote -> words.contains(quote) || quote.contains(words))) {
                left.add(part);
            }
        }
        return left;
    }

    /** In promises each line is a part; of the face, those lines that name several exceptions. */
    private List<String> parts(String heading) {
        boolean isPromise = heading.startsWith("Promise");
        boolean isFace = heading.equals("The public face");
        List<String> found = new ArrayList<>();
        for (String part : sections.get(heading).split(isPromise || isFace ? "\n" : "\n|(?<=[.;]) ")) {
            boolean isHeading = part.trim().split(" ").length <= 2;
            if (!isHeading && (!isFace || part.contains("Exception, "))) {
                found.add(part.trim());
            }
        }
        return found;
    }

    List<String> promises() {
        return sections.keySet().stream().filter(heading -> heading.startsWith("Promise")).toList();
    }
}
