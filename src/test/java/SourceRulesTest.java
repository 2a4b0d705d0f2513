import java.io.IOException;
import java.nio.charset.StandardCharsets;
import java.nio.file.Files;
import java.nio.file.Path;
import java.util.List;
import java.util.regex.Matcher;
import java.util.regex.Pattern;

/** Rules of LANGUAGE.md that a look at the source's text can hold: words that may not stand, lengths, parameters. */
public final class SourceRulesTest {
    private static final Check CHECK = new Check();
    private static final Path SOURCE = Path.of("src/main/java/NeedleGrid.java");
    private static final String[] FORBIDDEN = {
        "\\bpackage\\b", "\\bimport\\b", "\\bsynchronized\\b", "\\bassert\\b", "\\bfinally\\b", "\\bcatch\\b", "\\btry\\b",
        "\\bvolatile\\b", "\\btransient\\b", "\\bnative\\b", "\\bgoto\\b", "\\bObject\\b", "\\bDouble\\.", "\\bFloat\\b",
        "\\bSystem\\b", "\\bThread\\b", "\\bString\\.", "\\w+Exact\\(", "->", "::", "static\\s*\\{", "\" \\+", "\\+ \"",
        "static final (double|float)", "\\b(equals|hashCode|toString)\\("
    };

    public static void main(String[] args) throws IOException {
        List<String> lines = Files.readAllLines(SOURCE, StandardCharsets.UTF_8);
        String code = withoutComments(String.join("\n", lines));
        for (String word : FORBIDDEN) {
            Matcher matcher = Pattern.compile(word).matcher(code);
            CHECK.due("no " + word, matcher.find() ? matcher.group() : "", "");
        }
        CHECK.due("ASCII alone", code.chars().allMatch(sign -> sign < 128), true);
        exceptions(code);
        parameters(code);
        lengths(lines);
        CHECK.due("no more than 12 classes", code.split("\\bclass \\w+ \\{").length - 1 <= 12, true);
        CHECK.end("SourceRulesTest");
    }

    private static String withoutComments(String text) {
        return text.replaceAll("(?s)/\\*.*?\\*/", "").replaceAll("//[^\n]*", "");
    }

    private static void exceptions(String code) {
        Matcher thrown = Pattern.compile("throw [^;]*;").matcher(code);
        String form = "throw new (IllegalState|IllegalArgument|IndexOutOfBounds)Exception\\(\"[^\"]*\"\\);";
        while (thrown.find()) {
            CHECK.due("a rule's form: " + thrown.group(), thrown.group().matches(form), true);
        }
    }

    private static void parameters(String code) {
        Matcher heads = Pattern.compile("\\b\\w+ \\w+\\(([^()]*)\\)\\s*(throws [\\w, ]+)?\\{").matcher(code);
        while (heads.find()) {
            CHECK.due("parameters of " + heads.group(), heads.group(1).split(",").length <= 7, true);
        }
    }

    /** A method starts with a line that opens a brace, 4 or 8 blanks in, and ends with a brace as far in. */
    private static void lengths(List<String> lines) {
        for (int first = 0; first < lines.size(); first++) {
            Matcher head = Pattern.compile("( {4}| {8})\\w[\\w\\[\\] ]*\\(.*").matcher(lines.get(first));
            if (head.matches() && !lines.get(first).endsWith(";")) {
                int last = first;
                while (last < lines.size() && !lines.get(last).equals(head.group(1) + "}")) {
                    last++;
                }
                CHECK.due("at most 60 lines: " + lines.get(first).strip(), last - first + 1 <= 60, true);
            }
        }
    }
}
