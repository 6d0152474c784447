import java.io.IOException;
import java.nio.file.Files;
import java.nio.file.Path;
import java.util.ArrayList;
import java.util.List;
import java.util.Map;
import java.util.TreeMap;
import java.util.regex.Matcher;
import java.util.regex.Pattern;
import java.util.stream.Stream;

/** Every sentence of the document's terms and promises is quoted by a test, and what is quoted stands there. */
public final class DocTest {
    private static final Path DOC = Path.of("../shared/DOC.md");
    private static final Path TESTS = Path.of("src/test/java");
    private static final Pattern QUOTE =
        Pattern.compile("Due\\.sentence\\(\"(\\w+)\",\\s*((?:\"[^\"\\n]*\"\\s*\\+?\\s*)+)\\)");

    private final Map<String, String> parts = new TreeMap<>();
    private final Map<String, boolean[]> quoted = new TreeMap<>();

    public static void main(String[] args) throws IOException {
        DocTest test = new DocTest();
        test.readDocument();
        test.readQuotes();
        test.nothingIsLeftOut();
        Due.end();
    }

    private void readDocument() throws IOException {
        String doc = Files.readString(DOC);
        part("use", doc, "(?s)An object is used for at most .*? is free\\.");
        part("refusals", doc, "(?s)REFUSALS, .*?(?=\\n==== 1)");
        part("1", doc, "(?s)(?<=\\n==== 1 ).*?(?=\\n==== 2)");
        part("2", doc, "(?s)(?<=\\n==== 2 ).*?(?=\\n==== 3)");
        part("3", doc, "(?s)(?<=\\n==== 3 ).*?(?=\\nAhead of the calls)");
        Matcher promise = Pattern.compile("(?s)\\n## Promise (\\d+): \\w[\\w ]*\\n\\s*`[^`]*`: (.*?)(?=\\n##)").matcher(doc);
        while (promise.find()) put("P" + promise.group(1), promise.group(2));
        Due.is("parts of the document", parts.size(), 5 + 28);
    }

    private void part(String name, String doc, String pattern) {
        Matcher found = Pattern.compile(pattern).matcher(doc);
        Due.that("the document has the part " + name, found.find());
        put(name, found.group());
    }

    private void put(String name, String text) {
        String plain = text.replaceAll("```(text)?", " ").replaceAll("\\s+", " ").trim();
        parts.put(name, plain);
        quoted.put(name, new boolean[plain.length()]);
    }

    private void readQuotes() throws IOException {
        List<Path> tests = new ArrayList<>();
        try (Stream<Path> all = Files.list(TESTS)) {
            all.filter(path -> path.toString().endsWith("Test.java")).forEach(tests::add);
        }
        for (Path path : tests) {
            String source = Files.readString(path);
            Matcher quote = QUOTE.matcher(source);
            int calls = 0;
            while (quote.find()) {
                calls++;
                mark(path.getFileName().toString(), quote.group(1), quote.group(2).replaceAll("\"\\s*\\+\\s*\"", ""));
            }
            boolean isThis = path.endsWith("DocTest.java");
            Due.is(path + ": quotes that can be read", calls, isThis ? 0 : source.split("Due\\.sentence\\(").length - 1);
        }
    }

    private void mark(String file, String part, String literal) {
        String words = literal.trim().replaceAll("^\"|\"$", "");
        int at = parts.containsKey(part) ? parts.get(part).indexOf(words) : -1;
        Due.that(file + ": " + part + " has the words " + words, at >= 0 && !words.isEmpty());
        for (int i = at; at >= 0 && i < at + words.length(); i++) quoted.get(part)[i] = true;
    }

    private void nothingIsLeftOut() {
        for (String part : parts.keySet()) {
            StringBuilder left = new StringBuilder();
            for (int i = 0; i < parts.get(part).length(); i++) {
                left.append(quoted.get(part)[i] ? '_' : parts.get(part).charAt(i));
            }
            String words = left.toString().replaceAll("_+", " .. ").trim();
            Due.that(part + ": no test quotes " + words, !Pattern.compile("\\w").matcher(words).find());
        }
    }
}
