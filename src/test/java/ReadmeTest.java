import java.io.IOException;
import java.nio.file.Files;
import java.nio.file.Path;
import java.util.List;

/** The example of README.md: that it shows just these calls, with the answers that the class gives. */
public final class ReadmeTest {
    private static final Check check = new Check();

    public static void main(String[] args) throws IOException {
        List<String> lines = Files.readAllLines(Path.of("README.md"));
        List<String> example = lines.subList(lines.indexOf("```java") + 1, lines.lastIndexOf("```"));
        Springleaf page = new Springleaf();
        check.compare("the first line", "Springleaf page = new Springleaf();", example.get(0));
        int flap = shown(example, 1, "int flap = page.fold(0, 2, 0);", page.fold(0, 2, 0));
        int base = shown(example, 2, "int base = page.part(0, 10, 9, 0, 3, true);", page.part(0, 10, 9, 0, 3, true));
        int wing = shown(example, 3, "int wing = page.part(flap, 20, 18, 2, 2, false);",
                page.part(flap, 20, 18, 2, 2, false));
        shown(example, 4, "page.angle(flap, 90);", page.angle(flap, 90));
        shown(example, 5, "page.where(wing, 90, 0);", page.where(wing, 90, 0));
        shown(example, 6, "page.meet(base, wing, 90);", page.meet(base, wing, 90));
        shown(example, 7, "page.test();", page.test());
        shown(example, 8, "page.sheets();", page.sheets());
        shown(example, 9, "page.laid(wing, 2);", page.laid(wing, 2));
        shown(example, 10, "page.glue(base);", page.glue(base));
        shown(example, 11, "page.glue(wing);", page.glue(wing));
        shown(example, 12, "page.isBound();", page.isBound());
        shown(example, 13, "page.resize(base, 12);", page.resize(base, 12));
        shown(example, 14, "page.tells(flap, 2);", page.tells(flap, 2));
        check.due("lines of the example", 15, () -> example.size());
        check.end();
    }

    /** Holds that the line shows the call and, first behind it, the answer. */
    private static <T> T shown(List<String> example, int line, String call, T answer) {
        String[] halves = example.get(line).split("//");
        check.compare("the call of line " + line, call, halves[0].strip());
        check.compare(call, answer.toString(), halves[halves.length - 1].strip().split(":")[0]);
        return answer;
    }
}
