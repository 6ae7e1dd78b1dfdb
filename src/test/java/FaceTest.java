import java.io.IOException;
import java.lang.reflect.Constructor;
import java.lang.reflect.Field;
import java.lang.reflect.Member;
import java.lang.reflect.Method;
import java.lang.reflect.Modifier;
import java.nio.file.Files;
import java.nio.file.Path;
import java.util.TreeSet;

/** The public face: what the document's list has, and no other member that is not private. */
final class FaceTest {
    private static final Check CHECK = new Check("FaceTest");
    private static final Path DOCUMENT = Path.of("..", "shared", "DOC.md");

    public static void main(String[] args) throws IOException {
        TreeSet<String> due = new TreeSet<>();
        for (String line : Files.readAllLines(DOCUMENT)) {
            String told = line.strip();
            if (told.startsWith("public ") && told.endsWith(";")) {
                due.add(plain(told));
            }
        }
        CHECK.same("members in the document", 46 + 1, due.size());
        TreeSet<String> got = new TreeSet<>();
        for (Method method : Shakerhall.class.getDeclaredMethods()) {
            take(method, method.toGenericString(), got);
        }
        for (Constructor<?> constructor : Shakerhall.class.getDeclaredConstructors()) {
            take(constructor, constructor.toGenericString(), got);
        }
        for (Field field : Shakerhall.class.getDeclaredFields()) {
            take(field, field.toGenericString(), got);
        }
        CHECK.same("the face", due, got);
        CHECK.same("the class is", "public final", Modifier.toString(Shakerhall.class.getModifiers()));
        for (Class<?> inside : Shakerhall.class.getDeclaredClasses()) {
            int modifiers = inside.getModifiers();
            CHECK.yes(inside + " is not seen from outside",
                    !Modifier.isPublic(modifiers) && !Modifier.isProtected(modifiers));
            CHECK.yes(inside + " is static", Modifier.isStatic(modifiers));
        }
        CHECK.yes("no private method bears the name of a public one", ownNames());
        CHECK.end();
    }

    private static void take(Member member, String text, TreeSet<String> into) {
        if (!Modifier.isPrivate(member.getModifiers()) && !member.isSynthetic()) {
            into.add(plain(text));
        }
    }

    /** A member without the names of packages, arguments and the class, and without spaces that may differ. */
    private static String plain(String text) {
        return text.replace(";", "").replace("java.lang.", "").replace("java.util.", "").replace("Shakerhall.", "")
                .replaceAll("\\b(int|char|boolean) [a-z]+([,)])", "$1$2").replaceAll(",\\s*", ",").strip();
    }

    private static boolean ownNames() {
        TreeSet<String> names = new TreeSet<>();
        for (Method method : Shakerhall.class.getDeclaredMethods()) {
            if (Modifier.isPublic(method.getModifiers())) {
                names.add(method.getName());
            }
        }
        boolean own = true;
        for (Method method : Shakerhall.class.getDeclaredMethods()) {
            own &= Modifier.isPublic(method.getModifiers()) || !names.contains(method.getName());
        }
        for (Class<?> inside : Shakerhall.class.getDeclaredClasses()) {
            for (Method method : inside.getDeclaredMethods()) {
                own &= !names.contains(method.getName());
            }
        }
        return own;
    }
}
