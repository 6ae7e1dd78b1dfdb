import java.io.IOException;
import java.lang.reflect.InvocationTargetException;
import java.lang.reflect.Method;
import java.lang.reflect.Modifier;
import java.nio.file.Files;
import java.nio.file.Path;
import java.util.Arrays;
import java.util.List;
import java.util.TreeSet;
import java.util.regex.Matcher;
import java.util.regex.Pattern;

/** Every call of the examples in README.md and in the document answers as it is told there. */
final class ExamplesTest {
    private static final Check CHECK = new Check("ExamplesTest");
    private static final Path DOCUMENT = Path.of("..", "shared", "DOC.md");
    private static final Path README = Path.of("README.md");
    private static final Pattern BLOCK = Pattern.compile("(?s)\n```(java|text)\n(.*?)\n```\n");
    private static final Pattern JAVA_CALL = Pattern.compile("lab\\.(\\w+)\\(([^)]*)\\); +// (\\S.*)");
    private static final Pattern TEXT_CALL = Pattern.compile("(\\w+)\\(([^)]*)\\) = ([^;]+)");
    private static final String NEW = "Shakerhall lab = new Shakerhall();";
    private static final TreeSet<String> NAMED = new TreeSet<>();

    public static void main(String[] args) throws IOException {
        document();
        readme();
        CHECK.end();
    }

    private static void document() throws IOException {
        int examples = 0;
        Matcher block = BLOCK.matcher(Files.readString(DOCUMENT));
        while (block.find()) {
            if (block.group(1).equals("text")) {
                examples++;
                Shakerhall lab = new Shakerhall();
                String text = block.group(2).strip().replaceAll("\\.$", "");
                for (String call : text.split(";")) {
                    Matcher told = TEXT_CALL.matcher(call.strip());
                    CHECK.yes("an example of the document can be read: " + call, told.matches());
                    make("the document", lab, told.group(1), told.group(2), told.group(3));
                }
            }
        }
        CHECK.same("examples in the document", 2, examples);
    }

    private static void readme() throws IOException {
        NAMED.clear();
        int examples = 0;
        Matcher block = BLOCK.matcher(Files.readString(README));
        while (block.find()) {
            if (block.group(1).equals("java")) {
                examples++;
                example(block.group(2).split("\n"));
            }
        }
        CHECK.yes("README.md has an example for each group of calls: " + examples, examples >= 10);
        for (Method method : Shakerhall.class.getDeclaredMethods()) {
            if (Modifier.isPublic(method.getModifiers())) {
                CHECK.yes("README.md shows " + method.getName(), NAMED.contains(method.getName()));
            }
        }
    }

    private static void example(String[] lines) {
        Shakerhall lab = new Shakerhall();
        CHECK.same("an example begins with", NEW, lines[0]);
        for (String line : Arrays.copyOfRange(lines, 1, lines.length)) {
            Matcher told = JAVA_CALL.matcher(line);
            boolean read = told.matches();
            CHECK.yes("a line of README.md can be read: " + line, read);
            if (read) {
                make("README.md", lab, told.group(1), told.group(2), told.group(3));
            }
        }
    }

    private static void make(String where, Shakerhall lab, String name, String arguments, String due) {
        NAMED.add(name);
        List<String> told = arguments.isEmpty() ? List.of() : List.of(arguments.split(", "));
        for (Method method : Shakerhall.class.getDeclaredMethods()) {
            if (method.getName().equals(name) && method.getParameterCount() == told.size()) {
                CHECK.same(where + ": " + name + "(" + arguments + ")", due, answer(lab, method, told));
                return;
            }
        }
        CHECK.yes(where + ": there is a call " + name + "(" + arguments + ")", false);
    }

    private static String answer(Shakerhall lab, Method method, List<String> told) {
        Object[] values = new Object[told.size()];
        for (int i = 0; i < values.length; i++) {
            values[i] = value(method.getParameterTypes()[i], told.get(i));
        }
        try {
            Object answer = method.invoke(lab, values);
            return answer instanceof Character ? "'" + answer + "'" : answer.toString();
        } catch (InvocationTargetException thrown) {
            return "throws " + thrown.getCause().getClass().getSimpleName();
        } catch (IllegalAccessException closed) {
            throw new IllegalStateException(closed);
        }
    }

    private static Object value(Class<?> kind, String told) {
        if (kind == boolean.class) {
            return Boolean.valueOf(told);
        }
        return kind == char.class ? (Object) told.charAt(1) : (Object) Integer.valueOf(told);
    }
}
