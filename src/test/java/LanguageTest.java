import java.io.IOException;
import java.nio.file.Files;
import java.nio.file.Path;
import java.util.List;
import java.util.regex.Pattern;

/** Those rules of LANGUAGE.md that can be seen in the text of the class. */
public final class LanguageTest {
    private static final int LONGEST_METHOD = 60, MOST_PARAMETERS = 7;

    // A method's or a constructor's first line, with what stands between its brackets.
    private static final Pattern HEAD = Pattern.compile("^ +[a-zA-Z\\[\\] ]*\\w+\\(([^()]*)\\) \\{$");

    public static void main(String[] args) throws IOException {
        Checks c = new Checks();
        List<String> lines = Files.readAllLines(Path.of("src/main/java/CallKeepers.java"));
        leftOut(c, String.join("\n", lines));
        methods(c, lines);
        c.end();
    }

    private static void leftOut(Checks c, String text) {
        String[] leftOut = {"\\b(package|import|throw|throws|try|catch|finally|synchronized|assert)\\b", "->", "::",
            "\\b(equals|hashCode|toString)\\(", "Exact\\(", "\\b(Object|Throwable|\\w*Exception|Thread|Random)\\b",
            "\\bSystem\\.(?!arraycopy)", "\\bstatic \\{", "\\b(protected|native|volatile|transient)\\b"};
        for (String words : leftOut) {
            c.due("the class has " + words, Pattern.compile(words).matcher(text).find() ? 1 : 0, 0);
        }
    }

    private static void methods(Checks c, List<String> lines) {
        int seen = 0;
        for (int i = 0; i < lines.size(); i++) {
            var head = HEAD.matcher(lines.get(i));
            if (head.find() && !lines.get(i).matches(" +(if|for|while|switch) .*")) {
                seen++;
                int parameters = head.group(1).split(",").length;
                c.due("too many parameters: " + lines.get(i), parameters > MOST_PARAMETERS ? 1 : 0, 0);
                String end = " ".repeat(lines.get(i).indexOf(lines.get(i).trim())) + "}";
                int length = lines.subList(i, lines.size()).indexOf(end) + 1;
                c.due("too long: " + lines.get(i), length >= 1 && length <= LONGEST_METHOD ? 0 : 1, 0);
            }
        }
        c.due("methods were seen", seen > 14 ? 1 : 0, 1);
    }
}
