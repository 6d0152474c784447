import java.io.File;
import java.io.IOException;
import java.nio.file.Files;
import java.nio.file.Path;
import java.util.regex.Matcher;
import java.util.regex.Pattern;
import java.util.stream.Stream;
import javax.tools.ToolProvider;

/** The calls that README.md shows compile, and answer what stands beside them. */
public final class ReadmeTest {
    private static final Pattern BLOCK = Pattern.compile("(?s)```java\n(.*?)```");
    private static final Pattern ANSWER = Pattern.compile("(?m)^(x\\.\\w+\\(.*?\\)); +// (-?\\d+)\\b.*$");

    public static void main(String[] args) throws IOException, InterruptedException {
        Matcher block = BLOCK.matcher(Files.readString(Path.of("README.md")));
        Due.that("README.md shows calls", block.find());
        String shown = block.group(1);
        Matcher answer = ANSWER.matcher(shown);
        Due.is("calls of README.md with an answer", answer.results().count(), shown.split("\nx\\.").length - 1);
        run("final class Shown {\n    public static void main(String[] args) {\n"
            + answer.replaceAll("Due.is(\"README.md: $1\", $1, $2L);") + "Due.end();\n    }\n}\n");
        Due.end();
    }

    /** By a machine of its own: a class that is loaded later would not see what the tests share. */
    private static void run(String source) throws IOException, InterruptedException {
        Path folder = Files.createTempDirectory("shown");
        Path file = Files.writeString(folder.resolve("Shown.java"), source);
        String path = System.getProperty("java.class.path") + File.pathSeparator + folder;
        int wrong = ToolProvider.getSystemJavaCompiler().run(null, null, null,
            "-d", folder.toString(), "-cp", path, file.toString());
        Due.is("README.md compiles", wrong, 0);
        if (wrong == 0) {
            String java = Path.of(System.getProperty("java.home"), "bin", "java").toString();
            Due.is("README.md runs", new ProcessBuilder(java, "-cp", path, "Shown").inheritIO().start().waitFor(), 0);
        }
        try (Stream<Path> all = Files.list(folder)) {
            for (Path one : all.toList()) Files.delete(one);
        }
        Files.delete(folder);
    }
}
