import java.io.IOException;
import java.nio.file.Files;
import java.nio.file.Path;
import java.util.regex.Matcher;
import java.util.regex.Pattern;

/** Some rules of ../shared/LANGUAGE.md that can be seen in the text of the program; run it from the project's folder. */
public final class LanguageTest {
    private static final Path PROGRAM = Path.of("src/main/java/Springleaf.java");
    private static final String[] RULED_OUT = {
        "->", "::", "\\b(try|catch|finally|synchronized|assert|package)\\b", "\\bstatic\\s*\\{",
        "\\b(Object|HashMap|LinkedList|Random|System\\.(out|err|in|nano|current)\\w*|Thread)\\b", "Exact\\(",
        "import (?!java\\.util\\.ArrayList;)", "\\b(equals|hashCode|toString)\\(", "[^\\x00-\\x7f]",
        "throw new (?!(IndexOutOfBounds|IllegalArgument|IllegalState)Exception\\()",
        // The rules allow more than these three; they leave no index, divisor or cast that needs a test before it.
        "\\[", "[/%](?! 90;)", "\\((?!char\\) 0)\\w+\\) \\w"};

    public static void main(String[] args) throws IOException {
        Check check = new Check();
        String text = Files.readString(PROGRAM).replaceAll("//.*|/\\*\\*.*?\\*/", "");
        for (String rule : RULED_OUT) {
            Matcher found = Pattern.compile(rule).matcher(text);
            check.compare("the program against " + rule, "", found.find() ? found.group() : "");
        }
        check.end();
    }
}
