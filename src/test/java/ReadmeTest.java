import java.io.IOException;
import java.lang.reflect.Method;
import java.lang.reflect.Modifier;
import java.nio.charset.StandardCharsets;
import java.nio.file.Files;
import java.nio.file.Path;

/** README.md: its example answers what it tells, and it names every call. */
public final class ReadmeTest {
    private static final Check CHECK = new Check();
    private static final String EXAMPLE = """
            NeedleGrid grid = new NeedleGrid();
            grid.bar(14, 0, 20);               // a bar in the cell 14 that points right, of strength 20
            int field = grid.cell(15, 3);      // 102000: x of the field beside it, 2000, with 100000 more
            int turned = grid.step(1);         // 35 needles turn
            int rest = grid.restsIn();         // 1: one more step, and all are at rest
            grid.undo();                       // the step is taken back
            """;
    private static final String TEXT = "22a20;55h3";

    private ReadmeTest() {
    }

    public static void main(String[] args) throws IOException {
        String page = Files.readString(Path.of("README.md"), StandardCharsets.UTF_8);
        CHECK.due("the example stands on the page", page.contains("```java\n" + EXAMPLE + "```\n"), true);
        CHECK.due("the text stands on the page", page.contains("`" + TEXT + "`"), true);
        example();
        text();
        names(page);
        CHECK.end("ReadmeTest");
    }

    /** The calls of the example; whoever changes it there changes it here, too. */
    private static void example() {
        NeedleGrid grid = new NeedleGrid();
        grid.bar(14, 0, 20);
        int field = grid.cell(15, 3);
        int turned = grid.step(1);
        int rest = grid.restsIn();
        grid.undo();
        CHECK.due("the bar's cell", grid.barOf(0, 0), 14);
        CHECK.due("the bar's direction", grid.barOf(0, 1), 0);
        CHECK.due("the bar's strength", grid.barOf(0, 2), 20);
        CHECK.due("field", field, 102000);
        CHECK.due("turned", turned, 35);
        CHECK.due("rest", rest, 1);
        CHECK.due("needles that point up again", grid.pointing(6), 36);
        CHECK.due("steps behind undo", grid.count(0), 0);
    }

    private static void text() {
        NeedleGrid grid = new NeedleGrid();
        grid.bar(0, 0, 1);
        Check.type(grid, TEXT);
        CHECK.due("no error", grid.firstError(), TEXT.length());
        CHECK.due("bars", grid.bars(), 2);
        CHECK.due("the first one's cell", grid.barOf(0, 0), 14);
        CHECK.due("the second one's cell", grid.barOf(1, 0), 35);
    }

    private static void names(String page) {
        for (Method method : NeedleGrid.class.getDeclaredMethods()) {
            if (Modifier.isPublic(method.getModifiers())) {
                CHECK.due("names " + method.getName(), page.contains("`" + method.getName() + "`"), true);
            }
        }
    }
}
