import java.lang.reflect.Array;
import java.lang.reflect.Field;
import java.util.List;

/** Promise 47 from inside: no call makes a laboratory unsound, so the fields are set by hand here. */
final class SoundTest {
    private static final Check CHECK = new Check("SoundTest");

    public static void main(String[] args) throws ReflectiveOperationException {
        for (int which = 0; which < 2; which++) {
            for (int at = 0; at < 8; at++) {
                inRow("runs", which, "drives", at, 1, 100000);
                inRow("runs", which, "notches", at, 0, 90);
                inRow("structures", which, "felt", at, 0, Integer.MAX_VALUE);
            }
            for (int mass = 0; mass < 4; mass++) {
                inRow("structures", which, "cracks", mass, 0, 9);
            }
            number("runs", which, "stage", 3);
            number("structures", which, "damage", Integer.MAX_VALUE);
        }
        CHECK.end();
    }

    private static Shakerhall lab() {
        Shakerhall lab = new Shakerhall();
        lab.addSpecification();
        for (int i = 0; i < 2; i++) {
            lab.addStructure();
            for (int m = 0; m < 4; m++) {
                lab.addMass(i, 1, 1, 1);
            }
            lab.addRun(i, 0, 'm');
        }
        return lab;
    }

    private static Object field(Object owner, String name) throws ReflectiveOperationException {
        Field field = owner.getClass().getDeclaredField(name);
        field.setAccessible(true);
        return field.get(owner);
    }

    private static Object part(Shakerhall lab, String list, int which) throws ReflectiveOperationException {
        return ((List<?>) field(lab, list)).get(which);
    }

    private static void inRow(String list, int which, String name, int at, int least, int most)
            throws ReflectiveOperationException {
        int[] numbers = {least - 1, least, most, most + 1};
        for (int i = 0; i < 4; i++) {
            Shakerhall lab = lab();
            Object owner = part(lab, list, which);
            Object row = field(name.equals("cracks") ? field(owner, "chain") : owner, name);
            Array.set(row, at, numbers[i]);
            CHECK.same(name + " " + at + " of " + which + " being " + numbers[i],
                    i == 1 || i == 2, lab.isSound());
        }
    }

    private static void number(String list, int which, String name, int most) throws ReflectiveOperationException {
        int[] numbers = {-1, 0, most, most + 1};
        for (int i = 0; i < 4; i++) {
            Shakerhall lab = lab();
            Object owner = part(lab, list, which);
            Field field = owner.getClass().getDeclaredField(name);
            field.setAccessible(true);
            if (field.getType() == long.class) {
                field.setLong(owner, numbers[i]);
            } else {
                field.setInt(owner, numbers[i]);
            }
            CHECK.same(name + " of " + which + " being " + numbers[i],
                    numbers[i] >= 0 && numbers[i] <= most, lab.isSound());
        }
    }
}
