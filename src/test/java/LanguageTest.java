import java.io.IOException;
import java.lang.reflect.Field;
import java.lang.reflect.Modifier;
import java.nio.file.Files;
import java.nio.file.Path;
import java.util.HashMap;
import java.util.List;
import java.util.Map;
import java.util.TreeSet;
import java.util.regex.Matcher;
import java.util.regex.Pattern;

/** The rules of ../shared/LANGUAGE.md that can be seen by reading the source. */
final class LanguageTest {
    private static final Check CHECK = new Check("LanguageTest");
    private static final String[] RULED_OUT = {
        "->", "::", "\\bfinally\\b", "\\bsynchronized\\b", "\\bassert\\b", "\\bvolatile\\b", "\\bnative\\b",
        "\\bprotected\\b", "\\bthrow\\s+(?!new )", "\\bcatch\\b", "\\bgetMessage\\b", "\\bgetClass\\b", "\\bhashCode\\b",
        "\\bequals\\b", "Exact\\b", "\\bSystem\\.(?!arraycopy)", "\\bThread\\b", "\\bRandom\\b", "\\bstatic\\s*\\{",
        "\\bvar\\b", "\\bpackage\\b", "\\bstatic (int|long|boolean|char|String)(\\[\\])? [a-z]\\w* *[=;]"
    };

    private static final Pattern METHOD =
            Pattern.compile("\n( {4}| {8})(?! )[\\w<>\\[\\] ]*\\b(\\w+)\\(([^)]*)\\)[^;{}]*\\{");
    private static final int DEEPEST = 8;
    private static final int MOST_FIELDS = 20;

    public static void main(String[] args) throws IOException {
        String raw = Files.readString(Path.of(args.length > 0 ? args[0] : "src/main/java/Shakerhall.java"));
        CHECK.yes("signs 1 to 127 alone", raw.chars().allMatch(c -> c >= 1 && c <= 127));
        String code = raw.replaceAll("(?s)/\\*.*?\\*/", "").replaceAll("//[^\n]*", "");
        CHECK.yes("no text is joined by +", !Pattern.compile("\"\\s*\\+|\\+\\s*\"").matcher(code).find());
        code = code.replaceAll("\"[^\"\n]*\"", "\"\"");
        for (String pattern : RULED_OUT) {
            CHECK.yes("no " + pattern, !Pattern.compile(pattern).matcher(code).find());
        }
        imports(code);
        exceptions(code);
        classes(code);
        methods(code);
        library(code);
        depths(code);
        fields(Shakerhall.class);
        for (Class<?> inside : Shakerhall.class.getDeclaredClasses()) {
            fields(inside);
        }
        CHECK.end();
    }

    private static void imports(String code) {
        Matcher found = Pattern.compile("import ([^;]+);").matcher(code);
        while (found.find()) {
            CHECK.yes("import " + found.group(1),
                    List.of("java.util.ArrayList", "java.util.NoSuchElementException").contains(found.group(1)));
        }
    }

    private static void exceptions(String code) {
        Matcher found = Pattern.compile("throw new (\\w+)\\(([^)]*)\\)").matcher(code);
        while (found.find()) {
            CHECK.yes("throw " + found.group(1), List.of("IllegalStateException", "IllegalArgumentException",
                    "IndexOutOfBoundsException", "UnsupportedOperationException", "NoSuchElementException")
                    .contains(found.group(1)));
            CHECK.yes("a written text", found.group(2).equals("\"\""));
        }
    }

    private static void classes(String code) {
        int count = 0;
        Matcher found = Pattern.compile("\\b(class|enum|interface|record) \\w+").matcher(code);
        while (found.find()) {
            count++;
        }
        CHECK.yes("some twelve classes: " + count, count <= 12);
    }

    private static void methods(String code) {
        Matcher found = METHOD.matcher(code);
        int count = 0;
        while (found.find()) {
            count++;
            String end = "\n" + found.group(1) + "}";
            int lines = code.substring(found.start() + 1, code.indexOf(end, found.end() - 1)).split("\n").length;
            CHECK.yes(found.group(2) + " is short: " + lines, lines <= 60);
            CHECK.yes(found.group(2) + " takes seven at most", found.group(3).split(",").length <= 7);
        }
        CHECK.yes("methods were found: " + count, count > 80);
    }

    /** Of the library's static functions and classes the class needs these alone. */
    private static void library(String code) {
        Matcher called = Pattern.compile("\\b([A-Z]\\w+)\\.([a-z]\\w*)\\(").matcher(code);
        while (called.find()) {
            CHECK.yes("call of " + called.group(), called.group(1).equals("Math")
                    && List.of("max", "min", "abs").contains(called.group(2)));
        }
        TreeSet<String> own = new TreeSet<>(List.of("int", "long", "char", "ArrayList"));
        for (Class<?> inside : Shakerhall.class.getDeclaredClasses()) {
            own.add(inside.getSimpleName());
        }
        Matcher made = Pattern.compile("\\bnew (\\w+)").matcher(code);
        while (made.find()) {
            CHECK.yes("a new " + made.group(1), own.contains(made.group(1)) || made.group(1).endsWith("Exception"));
        }
        CHECK.yes("no array of arrays", !code.contains("[]["));
    }

    /** Calls by name, those of like names taken together: none comes back to itself, or goes deeper than eight. */
    private static void depths(String code) {
        Map<String, String> bodies = new HashMap<>();
        Matcher found = METHOD.matcher(code);
        while (found.find()) {
            String body = code.substring(found.end(), code.indexOf("\n" + found.group(1) + "}", found.end() - 1));
            bodies.merge(found.group(2), body, String::concat);
        }
        for (String name : bodies.keySet()) {
            int depth = depth(name, bodies, 1);
            CHECK.yes(name + " goes eight deep at most: " + depth, depth <= DEEPEST);
        }
    }

    private static int depth(String name, Map<String, String> bodies, int level) {
        int most = 1;
        if (level > DEEPEST) {
            return most;
        }
        Matcher called = Pattern.compile("\\b(\\w+)\\(").matcher(bodies.get(name));
        while (called.find()) {
            if (bodies.containsKey(called.group(1))) {
                most = Math.max(most, 1 + depth(called.group(1), bodies, level + 1));
            }
        }
        return most;
    }

    private static void fields(Class<?> one) {
        int count = 0;
        for (Field field : one.getDeclaredFields()) {
            count += Modifier.isStatic(field.getModifiers()) ? 0 : 1;
        }
        CHECK.yes(one + " has some twenty fields at most: " + count, count <= MOST_FIELDS);
    }
}
