import java.io.IOException;
import java.nio.file.Files;
import java.nio.file.Path;
import java.util.List;
import java.util.regex.Matcher;
import java.util.regex.Pattern;

/** The rules of ../shared/LANGUAGE.md that can be seen by reading the source. */
final class LanguageTest {
    private static final Check CHECK = new Check("LanguageTest");
    private static final String[] RULED_OUT = {
        "->", "::", "\\bfinally\\b", "\\bsynchronized\\b", "\\bassert\\b", "\\bvolatile\\b", "\\bnative\\b",
        "\\bprotected\\b", "\\bthrow\\s+(?!new )", "\\bcatch\\b", "\\bgetMessage\\b", "\\bgetClass\\b", "\\bhashCode\\b",
        "\\bequals\\b", "Exact\\b", "\\bSystem\\.(?!arraycopy)", "\\bThread\\b", "\\bRandom\\b", "\\bstatic\\s*\\{",
        "\\bvar\\b", "\\bpackage\\b", "\\bstatic (int|long|boolean|char|String)(\\[\\])? [a-z]\\w* *[=;]"
    };

    public static void main(String[] args) throws IOException {
        String raw = Files.readString(Path.of(args.length > 0 ? args[0] : "src/main/java/Shakerhall.java"));
        CHECK.yes("signs 1 to 127 alone", raw.chars().allMatch(c -> c >= 1 && c <= 127));
        String code = raw.replaceAll("(?s)/\\*.*?\\*/", "").replaceAll("//[^\n]*", "");
        CHECK.yes("no text is joined by +", !Pattern.compile("\"\\s*\\+|\\+\\s*\"").matcher(code).find());
        code = code.replaceAll("\"[^\"\n]*\"", "\"\"");
        for (String pattern : RULED_OUT) {
            CHECK.yes("no " + pattern, !Pattern.compile(pattern).matcher(code).find());
        }
        imports(code);
        exceptions(code);
        classes(code);
        methods(code);
        CHECK.end();
    }

    private static void imports(String code) {
        Matcher found = Pattern.compile("import ([^;]+);").matcher(code);
        while (found.find()) {
            CHECK.yes("import " + found.group(1),
                    List.of("java.util.ArrayList", "java.util.NoSuchElementException").contains(found.group(1)));
        }
    }

    private static void exceptions(String code) {
        Matcher found = Pattern.compile("throw new (\\w+)\\(([^)]*)\\)").matcher(code);
        while (found.find()) {
            CHECK.yes("throw " + found.group(1), List.of("IllegalStateException", "IllegalArgumentException",
                    "IndexOutOfBoundsException", "UnsupportedOperationException", "NoSuchElementException")
                    .contains(found.group(1)));
            CHECK.yes("a written text", found.group(2).equals("\"\""));
        }
    }

    private static void classes(String code) {
        int count = 0;
        Matcher found = Pattern.compile("\\b(class|enum|interface|record) \\w+").matcher(code);
        while (found.find()) {
            count++;
        }
        CHECK.yes("some twelve classes: " + count, count <= 12);
    }

    private static void methods(String code) {
        Matcher found = Pattern.compile("\n( {4}| {8})(?! )[\\w<>\\[\\] ]*\\b(\\w+)\\(([^)]*)\\)[^;{}]*\\{").matcher(code);
        int count = 0;
        while (found.find()) {
            count++;
            String end = "\n" + found.group(1) + "}";
            int lines = code.substring(found.start() + 1, code.indexOf(end, found.end() - 1)).split("\n").length;
            CHECK.yes(found.group(2) + " is short: " + lines, lines <= 60);
            CHECK.yes(found.group(2) + " takes seven at most", found.group(3).split(",").length <= 7);
        }
        CHECK.yes("methods were found: " + count, count > 80);
    }
}
