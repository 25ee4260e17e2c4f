import java.io.IOException;
import java.io.UncheckedIOException;
import java.nio.file.Files;
import java.nio.file.Path;
import java.util.LinkedHashMap;
import java.util.Map;

/** The document, cut at its headings; a promise's section goes by the promise's name. Blanks and line ends are one blank. */
final class Document {
    private static final Path FILE = Path.of("../shared/DOC.md");

    private final Map<String, String> sections = new LinkedHashMap<>();

    Document() {
        String text;
        try {
            text = Files.readString(FILE);
        } catch (IOException e) {
            throw new UncheckedIOException(e);
        }
        for (String part : text.split("(?m)^#+ ")) {
            int end = part.indexOf('\n');
            if (end > 0) {
                String name = part.substring(0, end).replaceFirst("Promise \\d+: ", "").trim();
                sections.put(name, plain(part.substring(end)));
            }
        }
    }

    static String plain(String text) {
        return text.replace("```text", " ").replace("```java", " ").replace("```", " ").replaceAll("\\s+", " ").trim();
    }

    Map<String, String> sections() {
        return sections;
    }

    boolean says(String section, String words) {
        return sections.getOrDefault(section, "").contains(plain(words));
    }
}
