import java.util.function.Consumer;

/** The edges of promises 1 to 5 and 7, and of what the section Structures says of rows and cracks. */
final class StructureEdges {
    private static final Consumer<Shakerhall> FIVE = lab -> structures(lab, 5);
    private static final Consumer<Shakerhall> SIX = lab -> structures(lab, 6);
    private static final Consumer<Shakerhall> THREE_MASSES = lab -> masses(lab, 3);
    private static final Consumer<Shakerhall> FOUR_MASSES = lab -> masses(lab, 4);
    private static final Consumer<Shakerhall> EIGHT_CRACKS = lab -> cracks(lab, 8);
    private static final Consumer<Shakerhall> NINE_CRACKS = lab -> cracks(lab, 9);

    private StructureEdges() {
    }

    static void run(Edges edges) {
        newObject(edges);
        structures(edges);
        masses(edges);
        cracks(edges);
        springs(edges);
        resonance(edges);
    }

    private static void structures(Shakerhall lab, int count) {
        for (int i = 0; i < count; i++) {
            lab.addStructure();
        }
    }

    private static void masses(Shakerhall lab, int count) {
        lab.addStructure();
        for (int i = 0; i < count; i++) {
            lab.addMass(0, 10 + i, 500 + i, 5 + i);
        }
    }

    /** Two masses, of which the first one has some cracks. */
    private static void cracks(Shakerhall lab, int count) {
        masses(lab, 2);
        for (int i = 0; i < count; i++) {
            lab.crack(0, 0);
        }
    }

    private static void newObject(Edges edges) {
        edges.of(1, "Creates a laboratory without structures, sensors and runs.");
        edges.row(Labs.NEW, 0, (lab, n) -> lab.getCracks(n));
        edges.row(Labs.NEW, 0, (lab, n) -> lab.setLoose(n, true));
        edges.row(Labs.NEW, 0, (lab, n) -> lab.getState(n));
        edges.row(Labs.NEW, 0, (lab, n) -> lab.setLevel(n, 0, 1));
        Shakerhall lab = new Shakerhall();
        edges.same("checksum", 7L, lab.checksum());
        edges.same("nothing is typed", 0, lab.wipe());
        edges.same("no cycles", 0, lab.countCycles());
        edges.same("no damage", 0L, lab.damageOfRow());
        edges.yes("sound", lab.isSound());
        edges.same("the first structure", 0, lab.addStructure());
        edges.same("another new one has none", 7L, new Shakerhall().checksum());
    }

    private static void structures(Edges edges) {
        edges.of("Structures", "At most 6 structures are numbered from 0, each a row of 1 to 4 masses");
        Shakerhall lab = new Shakerhall();
        for (int i = 0; i < 6; i++) {
            edges.same("numbers", i, lab.addStructure());
        }
        edges.of(2, "Throws `IllegalStateException` if there were 6");
        edges.allowed("a sixth one", FIVE, Shakerhall::addStructure);
        edges.refused("a seventh one", Edges.FULL, SIX, Shakerhall::addStructure);
        edges.refused("a seventh one among all", Edges.FULL, Labs.ALL, Shakerhall::addStructure);
    }

    private static void masses(Edges edges) {
        edges.of("Structures", "each a row of 1 to 4 masses, 1 to 99, the first one on the table");
        Shakerhall lab = Edges.made(Labs.BARE);
        for (int i = 1; i <= 4; i++) {
            edges.same("how many it has", i, lab.addMass(0, 1, i, 0));
            edges.same("the new one is the last", i, lab.getSpring(0, i - 1));
            edges.same("the first one stays", 1, lab.getSpring(0, 0));
        }
        edges.of(3, "`mass`: 1 to 99");
        edges.range(Labs.BARE, 1, 99, (l, n) -> l.addMass(0, n, 1, 0));
        edges.of(3, "`spring`: 1 to 9999");
        edges.range(Labs.BARE, 1, 9999, (l, n) -> l.addMass(0, 1, n, 0));
        edges.of(3, "`damper`: 0 to 99");
        edges.range(Labs.BARE, 0, 99, (l, n) -> l.addMass(0, 1, 1, n));
        edges.noStructure(3, (l, n) -> l.addMass(n, 1, 1, 0));
        edges.of(3, "Throws `IllegalArgumentException` if a number is out of range");
        edges.refused("all of them", Edges.RANGE, Labs.BARE, l -> l.addMass(0, 0, 0, -1));
        edges.refused("the first two", Edges.RANGE, Labs.BARE, l -> l.addMass(0, 100, 10000, 99));
        edges.refused("the last two", Edges.RANGE, Labs.BARE, l -> l.addMass(0, 99, 0, 100));
        edges.range(THREE_MASSES, 1, 99, (l, n) -> l.addMass(0, n, 1, 0));
        edges.of(3, "Throws `IllegalStateException` if it has 4");
        edges.allowed("a fourth one", THREE_MASSES, l -> l.addMass(0, 99, 9999, 99));
        edges.refused("a fifth one", Edges.FULL, FOUR_MASSES, l -> l.addMass(0, 99, 9999, 99));
        edges.refused("a fifth one among all", Edges.FULL, Labs.ALL, l -> l.addMass(5, 1, 1, 0));
    }

    private static void cracks(Edges edges) {
        edges.of("Structures", "A spring can have cracks, 0 at first, 9 at most: with n of them it is 10 - n tenths");
        int[] told = {9999, 505, 19, 10, 9, 1};
        int[][] due = {{8999, 7999, 6999, 5999, 4999, 3999, 2999, 1999, 999},
            {454, 404, 353, 303, 252, 202, 151, 101, 50}, {17, 15, 13, 11, 9, 7, 5, 3, 1},
            {9, 8, 7, 6, 5, 4, 3, 2, 1}, {8, 7, 6, 5, 4, 3, 2, 1, 0}, {0, 0, 0, 0, 0, 0, 0, 0, 0}};
        for (int i = 0; i < told.length; i++) {
            Shakerhall lab = Edges.made(Labs.BARE);
            lab.addMass(0, 10, told[i], 5);
            edges.same("no crack at first", told[i], lab.getSpring(0, 0));
            edges.same("counted", 0, lab.getCracks(0));
            for (int n = 1; n <= 9; n++) {
                edges.same("crack", n, lab.crack(0, 0));
                edges.same(told[i] + " with " + n, due[i][n - 1], lab.getSpring(0, 0));
            }
            edges.same("all of them", 9, lab.getCracks(0));
        }
        edges.of(4, "Throws `IllegalStateException` if it has 9");
        edges.allowed("a ninth one", EIGHT_CRACKS, lab -> lab.crack(0, 0));
        edges.refused("a tenth one", Edges.FULL, NINE_CRACKS, lab -> lab.crack(0, 0));
        edges.allowed("a first one of another spring", NINE_CRACKS, lab -> lab.crack(0, 1));
        edges.refused("a tenth one among all", Edges.FULL, Labs.ALL, lab -> lab.crack(5, 3));
        edges.of(4, "`mass`: the mass, from 0");
        edges.row(Labs.BARE, 0, (lab, n) -> lab.crack(0, n));
        edges.row(Labs.LIVELY, 1, (lab, n) -> lab.crack(0, n));
        edges.row(FOUR_MASSES, 4, (lab, n) -> lab.crack(0, n));
        edges.noStructure(4, (lab, n) -> lab.crack(n, 0));
        edges.refused("neither", Edges.NONE, Labs.LIVELY, lab -> lab.crack(1, 1));
    }

    private static void springs(Edges edges) {
        edges.of(5, "`mass`: the mass, from 0");
        edges.row(Labs.BARE, 0, (lab, n) -> lab.getSpring(0, n));
        edges.row(Labs.LIVELY, 1, (lab, n) -> lab.getSpring(0, n));
        edges.row(FOUR_MASSES, 4, (lab, n) -> lab.getSpring(0, n));
        edges.noStructure(5, (lab, n) -> lab.getSpring(n, 0));
        edges.refused("neither", Edges.NONE, Labs.LIVELY, lab -> lab.getSpring(1, 1));
    }

    private static void resonance(Edges edges) {
        edges.noStructure(7, (lab, n) -> lab.getResonance(n));
        edges.of(7, "Throws `UnsupportedOperationException` if the structure has no masses");
        edges.refused("no mass", Edges.CANNOT, Labs.BARE, lab -> lab.getResonance(0));
        edges.refused("no mass of the last one", Edges.CANNOT, SIX, lab -> lab.getResonance(5));
        edges.allowed("one mass", Labs.LIVELY, lab -> lab.getResonance(0));
        edges.allowed("four masses", FOUR_MASSES, lab -> lab.getResonance(0));
    }
}
