import java.io.IOException;
import java.nio.file.Files;
import java.nio.file.Path;
import java.util.List;
import java.util.regex.Matcher;
import java.util.regex.Pattern;

/**
 * The rules of LANGUAGE.md that can be read from the lines of the source; FaceTest has rule 1, RoomTest rule 12.
 * Of what a rule allows only under conditions (try, fractions, extends) the class uses nothing, and so it is refused.
 */
public final class LanguageTest {
    private static final String THROWN = "IllegalStateException|IllegalArgumentException|IndexOutOfBoundsException"
            + "|ArithmeticException|UnsupportedOperationException|NoSuchElementException|RuntimeException";
    private static final String CALLED = "Arrays\\.(copyOf|copyOfRange|fill)|System\\.arraycopy"
            + "|(Integer|Long|Math)\\.(?!\\w*Exact\\b)\\w+";
    private static final int MOST_LINES = 60;
    private static final int MOST_CLASSES = 12;

    public static void main(String[] args) throws IOException {
        String source = Files.readString(Path.of("src/main/java/LogBroker.java"));
        String code = source.replaceAll("(?s)/\\*.*?\\*/", "").replaceAll("//[^\n]*", "");
        String bare = code.replaceAll("\"[^\"\n]*\"", "\"\"");

        absent("a package line", "\\bpackage\\b", bare);
        absent("2: lambdas and method references", "->|::", bare);
        absent("3: arrays of objects in two dimensions, fractions", "[A-Z]\\w*\\[\\]\\[\\]|\\b(double|float)\\b", bare);
        absent("5: a static block", "\\bstatic\\s*\\{", bare);
        absent("6: try, finally, synchronized, assert, classes of exceptions",
                "\\b(try|catch|finally|synchronized|assert|extends)\\b", bare);
        absent("6: equals, hashCode and toString", "\\b(equals|hashCode|toString)\\b", bare);
        absent("6: a throw with more than a written text", "\\bthrow (?!new (" + THROWN + ")\\((\"\")?\\);)", bare);
        absent("9: a loop without an end", "while \\(true\\)|for \\(;", bare);
        absent("13: clock, randomness, files, threads", "\\b(Random|Thread|File|System\\.(?!arraycopy))\\b", bare);
        Check.due("characters 0 to 255", true, () -> source.chars().allMatch(c -> c < 256));

        only("imports", "import [\\w.]+;", "import java\\.util\\.Arrays;", bare);
        only("4: calls of the library", "\\b(Arrays|System|Math|Integer|Long)\\.\\w+", CALLED, bare);
        Check.due("11: classes", true, () -> count("\\bclass \\w+", bare) <= MOST_CLASSES);
        absent("11: eight parameters", "\\w\\((?:\\w+(?:\\[\\])* \\w+,\\s*){7}", bare);
        methodsAreShort(code.lines().toList());
        Check.finish("LanguageTest");
    }

    private static void absent(String what, String pattern, String text) {
        Matcher matcher = Pattern.compile(pattern).matcher(text);
        Check.same(what, "none", matcher.find() ? text.substring(matcher.start()).lines().findFirst().orElse("") : "none");
    }

    private static void only(String what, String pattern, String allowed, String text) {
        Matcher matcher = Pattern.compile(pattern).matcher(text);
        while (matcher.find()) {
            String found = matcher.group();
            Check.due(what + ": " + found, true, () -> found.matches(allowed));
        }
    }

    private static long count(String pattern, String text) {
        return Pattern.compile(pattern).matcher(text).results().count();
    }

    /** A method begins at a line that ends with a brace, and ends at the next one that closes at its depth. */
    private static void methodsAreShort(List<String> lines) {
        Pattern begins = Pattern.compile("^( {4}| {8})(?! )(?!.*\\bclass\\b).*\\(.*");
        for (int i = 0; i < lines.size(); i++) {
            Matcher matcher = begins.matcher(lines.get(i));
            if (matcher.matches() && !lines.get(i).endsWith(";")) {
                int end = lines.subList(i, lines.size()).indexOf(matcher.group(1) + "}");
                Check.due("11: lines of" + lines.get(i), true, () -> end >= 0 && end < MOST_LINES);
            }
        }
    }
}
