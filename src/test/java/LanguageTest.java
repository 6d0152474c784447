import java.io.IOException;
import java.nio.file.Files;
import java.nio.file.Path;
import java.util.regex.Matcher;
import java.util.regex.Pattern;

/** What ../shared/LANGUAGE.md forbids does not stand in the program's text: as far as a plain look can tell. */
public final class LanguageTest {
    private static final String[] FORBIDDEN = {
        "\\bthrow\\b", "\\bthrows\\b", "\\btry\\b", "\\bcatch\\b", "\\bfinally\\b", "\\bsynchronized\\b",
        "\\bassert\\b", "->", "::", "\\bimport\\b", "\\bpackage\\b", "\\bprotected\\b", "\\bvar\\b", "\\bnative\\b",
        "\\bvolatile\\b", "\\btransient\\b", "\\bsuper\\b", "\\bSystem\\b(?!\\.arraycopy)", "\\bThread\\b", "\\bObject\\b",
        "\\bequals\\s*\\(", "\\bhashCode\\b", "\\btoString\\b", "Exact\\b", "static\\s*\\{", "\\b(double|float)\\b",
        "\\bnew\\s+\\w+(\\(\\))?\\s*\\{", "\"\\s*\\+", "\\+\\s*\""};

    public static void main(String[] args) throws IOException {
        String source = Files.readString(Path.of(args.length > 0 ? args[0] : "src/main/java/GutterGardens.java"));
        for (char c : source.toCharArray()) {
            if (c > 127) Due.that("sign " + (int) c, false);
        }
        String code = source.replaceAll("(?s)/\\*.*?\\*/", "").replaceAll("//[^\n]*", "").replaceAll("'.'", "' '");
        for (String word : FORBIDDEN) Due.that("no " + word, !Pattern.compile(word).matcher(code).find());
        methodsAreShort(code);
        Due.end();
    }

    private static void methodsAreShort(String code) {
        Matcher head = Pattern.compile("(?m)^( +)(public |private |static |final )*[\\w\\[\\]]+ \\w+\\([^)]*\\) \\{$").matcher(code);
        int methods = 0;
        while (head.find()) {
            methods++;
            int end = code.indexOf("\n" + head.group(1) + "}", head.end());
            long lines = code.substring(head.start(), end).lines().count();
            Due.that(head.group().trim() + " has " + lines + " lines", lines <= 40);
            Due.that(head.group().trim() + " has seven parameters at most", head.group().split(",").length <= 7);
        }
        Due.that("methods are found", methods > 60);
    }
}
