import java.io.IOException;
import java.nio.file.Files;
import java.nio.file.Path;
import java.util.regex.Matcher;
import java.util.regex.Pattern;

/** What LANGUAGE.md rules out and a text can show; the source is the first argument. */
public final class LanguageTest {
    private static final String[] RULED_OUT = {
        "\\b(throw|throws|try|catch|finally|synchronized|assert|volatile|native|protected)\\b", "->", "::",
        "\\bstatic\\s*\\{", "\\bpackage\\s", "\\w+Exact\\b", "\\b(equals|hashCode|toString|getClass|values)\\s*\\(",
        "\\b(double|float|Object|Thread|Runtime|Random|Exception|Error)\\b", "@", "\"",
        "\\bSystem\\.(?!arraycopy\\b)", "\\bArrays\\.(?!(copyOf|copyOfRange|fill)\\b)",
        "\\bimport\\s+(?!java\\.util\\.(Arrays|ArrayList|List|Iterator);)"};
    private static final Checks c = new Checks("LanguageTest");

    public static void main(String[] args) throws IOException {
        Path source = Path.of(args.length > 0 ? args[0] : "src/main/java/HammerTowers.java");
        String code = Files.readString(source).replaceAll("(?s)/\\*.*?\\*/", "").replaceAll("//[^\n]*", "");
        for (String rule : RULED_OUT) {
            Matcher found = Pattern.compile(rule).matcher(code);
            c.is(rule + (found.find() ? " stands in it: " + found.group() : ""), found.reset().find() ? 1 : 0, 0);
        }
        for (char sign : code.toCharArray()) {
            if (sign > 127) {
                c.is("a sign beyond plain ones", sign, 0);
            }
        }
        classes(code);
        methods(code);
        c.end();
    }

    private static void classes(String code) {
        Matcher nested = Pattern.compile("\n    +([\\w ]*)\\b(class|enum|record|interface) ").matcher(code);
        int classes = 1;
        while (nested.find()) {
            classes++;
            c.is("a class inside is static: " + nested.group().trim(), nested.group(1).contains("static") ? 1 : 0, 1);
        }
        c.is("at most twelve classes, there are " + classes, classes <= 12 ? 1 : 0, 1);
    }

    private static void methods(String code) {
        Matcher head = Pattern.compile("\n( +)[\\w\\[\\] ]*\\b\\w+\\(([^()]*)\\) \\{\n").matcher(code);
        int seen = 0;
        while (head.find()) {
            if (head.group().matches("(?s).*\\b(if|for|while|switch|else|do)\\b.*")) {
                continue;
            }
            seen++;
            String name = head.group().trim();
            int params = head.group(2).isEmpty() ? 0 : head.group(2).split(",").length;
            c.is("at most seven parameters: " + name, params <= 7 ? 1 : 0, 1);
            int end = code.indexOf("\n" + head.group(1) + "}", head.end() - 1);
            c.is("at most sixty lines: " + name, code.substring(head.end(), end).lines().count() <= 60 ? 1 : 0, 1);
        }
        c.is("methods are seen", seen > 58 ? 1 : 0, 1);
    }
}
