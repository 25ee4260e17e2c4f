import java.io.IOException;
import java.nio.file.DirectoryStream;
import java.nio.file.Files;
import java.nio.file.Path;
import java.util.HashMap;
import java.util.LinkedHashMap;
import java.util.Map;
import java.util.regex.Matcher;
import java.util.regex.Pattern;

/** Whether each sentence of the document is quoted by a test: what no test quotes is told, and is wrong. */
public final class DocumentTest {
    private static final Path TESTS = Path.of("src/test/java");
    private static final String TEXT = "(\"[^\"\\n]*\"(?:\\s*\\+\\s*\"[^\"\\n]*\")*)";
    private static final Pattern TERMS = Pattern.compile("\\bterms\\(\\s*" + TEXT + "\\s*\\);");
    private static final Pattern WORDS = Pattern.compile("\\bwords\\(\\s*\"([^\"]*)\",\\s*" + TEXT + "\\s*\\);");
    // What is no promise: the title, the summary, the face (LanguageTest has it) and what is not promised.
    private static final String[] NO_PROMISES = {"HalfCourt", "The public face", "Not promised"};

    private final Bench bench = new Bench("DocumentTest");
    private final Map<String, StringBuilder> left = new LinkedHashMap<>();
    private final Map<String, String> whole = new HashMap<>(new Document().sections());

    public static void main(String[] args) throws IOException {
        DocumentTest test = new DocumentTest();
        new Document().sections().forEach((name, text) -> test.left.put(name, new StringBuilder(text)));
        try (DirectoryStream<Path> files = Files.newDirectoryStream(TESTS, "*Test.java")) {
            for (Path file : files) {
                test.strike(Files.readString(file));
            }
        }
        test.tellLeft();
        test.bench.close();
    }

    private void strike(String source) {
        Matcher terms = TERMS.matcher(source);
        while (terms.find()) {
            strike("Terms", joined(terms.group(1)));
        }
        Matcher words = WORDS.matcher(source);
        while (words.find()) {
            strike(words.group(1), joined(words.group(2)));
        }
    }

    private static String joined(String literals) {
        return Document.plain(literals.replaceAll("\"\\s*\\+\\s*\"", "").replaceAll("^\"|\"$", ""));
    }

    private void strike(String section, String quoted) {
        String text = whole.getOrDefault(section, "");
        int at = text.indexOf(quoted);
        bench.due("'" + quoted + "' stands in " + section, at >= 0, true);
        for (int i = at; at >= 0 && i < at + quoted.length(); i++) {
            left.get(section).setCharAt(i, ' ');
        }
    }

    private void tellLeft() {
        for (String none : NO_PROMISES) {
            bench.due("there is a section " + none, left.remove(none) != null, true);
        }
        StringBuilder summary = left.get("What it is");
        int end = summary.indexOf("==== 1.");
        summary.delete(0, end < 0 ? 0 : end + 7);
        left.forEach((section, text) -> {
            String bare = text.toString().replaceAll("^ *`[^`]*`:", " ").replaceAll("[^A-Za-z0-9]+", " ").trim();
            bench.due("not quoted of " + section + ": " + bare, bare.isEmpty(), true);
        });
    }
}
