import java.lang.reflect.Array;
import java.lang.reflect.Field;
import java.util.List;

/** The edges of promise 47: no call makes a laboratory unsound, so the fields are set from inside here. */
final class SoundEdges {
    private SoundEdges() {
    }

    static void run(Edges edges) {
        edges.of(47, "Returns whether all is sound: drives are 1 to 100000, stages 0 to 3, notches 0 to 90, cracks 0");
        edges.yes("a new one", new Shakerhall().isSound());
        edges.yes("all rows full", Edges.made(Labs.ALL).isSound());
        try {
            fields(edges);
        } catch (ReflectiveOperationException renamed) {
            edges.same("the fields that are set here", "", renamed.toString());
        }
    }

    private static void fields(Edges edges) throws ReflectiveOperationException {
        for (int which = 0; which < 2; which++) {
            for (int at = 0; at < 8; at++) {
                inRow(edges, "runs", which, "drives", at, 1, 100000);
                inRow(edges, "runs", which, "notches", at, 0, 90);
                inRow(edges, "structures", which, "felt", at, 0, Integer.MAX_VALUE);
            }
            for (int mass = 0; mass < 4; mass++) {
                inRow(edges, "structures", which, "cracks", mass, 0, 9);
            }
            number(edges, "runs", which, "stage", 3);
            number(edges, "structures", which, "damage", Integer.MAX_VALUE);
        }
    }

    private static Shakerhall lab() {
        Shakerhall lab = new Shakerhall();
        lab.addSpecification();
        for (int i = 0; i < 2; i++) {
            lab.addStructure();
            for (int m = 0; m < 4; m++) {
                lab.addMass(i, 1, 1, 1);
            }
            lab.addRun(i, 0, 'm');
        }
        return lab;
    }

    private static Object field(Object owner, String name) throws ReflectiveOperationException {
        Field field = owner.getClass().getDeclaredField(name);
        field.setAccessible(true);
        return field.get(owner);
    }

    private static Object part(Shakerhall lab, String list, int which) throws ReflectiveOperationException {
        return ((List<?>) field(lab, list)).get(which);
    }

    private static void inRow(Edges edges, String list, int which, String name, int at, int least, int most)
            throws ReflectiveOperationException {
        int[] numbers = {least - 1, least, most, most + 1};
        for (int i = 0; i < 4; i++) {
            Shakerhall lab = lab();
            Object owner = part(lab, list, which);
            Object row = field(name.equals("cracks") ? field(owner, "chain") : owner, name);
            Array.set(row, at, numbers[i]);
            edges.same(name + " " + at + " of " + which + " being " + numbers[i],
                    i == 1 || i == 2, lab.isSound());
        }
    }

    private static void number(Edges edges, String list, int which, String name, int most)
            throws ReflectiveOperationException {
        int[] numbers = {-1, 0, most, most + 1};
        for (int i = 0; i < 4; i++) {
            Shakerhall lab = lab();
            Object owner = part(lab, list, which);
            Field field = owner.getClass().getDeclaredField(name);
            field.setAccessible(true);
            if (field.getType() == long.class) {
                field.setLong(owner, numbers[i]);
            } else {
                field.setInt(owner, numbers[i]);
            }
            edges.same(name + " of " + which + " being " + numbers[i],
                    numbers[i] >= 0 && numbers[i] <= most, lab.isSound());
        }
    }
}
