/** Promises 37 to 41: cycles by rain, the damage of a row, the life, damage and cracks of a structure. */
final class FatigueTest {
    private static final Check CHECK = new Check("FatigueTest");
    private static final Class<IndexOutOfBoundsException> NONE = IndexOutOfBoundsException.class;
    private static final Class<IllegalArgumentException> RANGE = IllegalArgumentException.class;

    public static void main(String[] args) {
        rain();
        lives();
        wear();
        wearOfManyTurns();
        softest();
        wrongCalls();
        CHECK.end();
    }

    private static void row(String what, int cycles, long damage, int... places) {
        Shakerhall lab = new Shakerhall();
        for (int place : places) {
            lab.type(place);
        }
        CHECK.same("cycles: " + what, cycles, lab.countCycles());
        CHECK.same("damage: " + what, damage, lab.damageOfRow());
        CHECK.same("damage again: " + what, damage, lab.damageOfRow());
        CHECK.same("cycles again: " + what, cycles, lab.countCycles());
        CHECK.same("it stays typed: " + what, places.length, lab.wipe());
    }

    private static void rain() {
        row("nothing", 0, 0);
        row("one place", 0, 0, 50000);
        row("like places", 0, 0, 7, 7, 7);
        row("the document's example", 2, 1064, 0, 10000, 4000, 8000, 0);
        row("of the shared runs", 3, 2027, 0, 10000, 0, 10000, 5000, 8000, -2000);
        row("one half", 0, 500, 0, 10000);
        row("a half, cut", 0, 0, 0, 1999);
        row("half of the sum is cut, not each half", 0, 1, 0, 1999, 900);
        row("27 and 8", 0, 17, 0, 3000, 999);
        row("a way up with a rest", 0, 500, 0, 3000, 3000, 3001, 10000);
        row("a turn on like places", 1, 1000, 0, 10000, 10000, 0);
        row("like places at the end", 0, 500, 0, 10000, 10000);
        row("like places at first", 0, 500, 5, 5, 5, 10005);
        row("spans that are like", 1, 1000, 0, 10000, 0);
        row("a span that is less", 0, (1000 + 729) / 2, 0, 10000, 1);
        row("spans that grow", 2, 1 + 27 + 125 / 2, 0, 1000, -1000, 2000, -2500, 2500);
        row("spans that shrink", 0, (1000 + 512 + 216 + 64) / 2, 0, 10000, 2000, 8000, 4000);
        row("999 is no damage", 1, 0, 0, 999, 0);
        row("1000 is one", 1, 1, 0, 1000, 0);
        row("the widest", 1, 199L * 199 * 199, -99999, 99999, -99999);
        row("several at one place", 3, 1000 + 64 + 8, 0, 10000, 4000, 8000, 5000, 7000, 0);
    }

    private static void lives() {
        Shakerhall lab = new Shakerhall();
        lab.addStructure();
        lab.addStructure();
        CHECK.same("life at first", 1000000000, lab.setLife(0, 1));
        CHECK.same("least life", 1, lab.setLife(0, 1000000000));
        CHECK.same("greatest life", 1000000000, lab.setLife(0, 5));
        CHECK.same("life of another one", 1000000000, lab.setLife(1, 5));
        CHECK.same("damage at first", 0L, lab.getDamage(0));
        CHECK.same("cracks at first", 0, lab.getCracks(0));
    }

    private static Shakerhall shaken() {
        Shakerhall lab = new Shakerhall();
        lab.addStructure();
        lab.addMass(0, 10, 500, 5);
        lab.addMass(0, 10, 400, 5);
        lab.addMass(0, 10, 400, 5);
        lab.type(90000);
        lab.type(-90000);
        lab.type(90000);
        return lab;
    }

    private static void wear() {
        Shakerhall first = shaken();
        first.shock(0);
        long once = first.getDamage(0);
        Model model = new Model();
        model.addStructure();
        model.addMass(0, 10, 500, 5);
        model.addMass(0, 10, 400, 5);
        model.addMass(0, 10, 400, 5);
        model.type(90000);
        model.type(-90000);
        model.type(90000);
        model.shock(0);
        CHECK.same("damage of a shock", model.getDamage(0), once);
        CHECK.yes("a shock wears", once > 2);
        first.shock(0);
        CHECK.same("damage of two", 2 * once, first.getDamage(0));
        CHECK.same("no crack within the life", 0, first.getCracks(0));
        CHECK.same("the row of the table is another one", model.damageOfRow(), first.damageOfRow());
        first.setLife(0, 1);
        CHECK.same("a shorter life alone breaks nothing", 2 * once, first.getDamage(0));
        first.shock(0);
        CHECK.same("one crack for all", 1, first.getCracks(0));
        CHECK.same("damage is gone", 0L, first.getDamage(0));

        Shakerhall enough = shaken();
        enough.setLife(0, (int) once);
        enough.shock(0);
        CHECK.same("just its life", once, enough.getDamage(0));
        CHECK.same("no crack", 0, enough.getCracks(0));
        Shakerhall less = shaken();
        less.setLife(0, (int) once - 1);
        less.shock(0);
        CHECK.same("more than its life", 0L, less.getDamage(0));
        CHECK.same("one crack", 1, less.getCracks(0));
        less.getResponse(0, 0, 16);
        less.sweep(0, 4, 64, 99);
        CHECK.same("tones and sweeps do not wear", 0L, less.getDamage(0));
    }

    /** Structures that jump to and fro nearly each step, from the first one on. */
    private static void wearOfManyTurns() {
        int[][] masses = {{2, 8791, 37}, {1, 1600, 0}, {16, 9984, 0}, {1, 9999, 99}, {6, 3640, 76},
            {3, 8, 93}};
        for (int[] mass : masses) {
            Shakerhall lab = new Shakerhall();
            Model model = new Model();
            lab.addStructure();
            model.addStructure();
            lab.addMass(0, mass[0], mass[1], mass[2]);
            model.addMass(0, mass[0], mass[1], mass[2]);
            for (int i = 0; i < 24; i++) {
                lab.type(99999 - i);
                model.type(99999 - i);
                lab.shock(0);
                model.shock(0);
                CHECK.same("damage of many turns", model.getDamage(0), lab.getDamage(0));
            }
        }
    }

    private static void softest() {
        Shakerhall lab = shaken();
        lab.setLife(0, 1);
        lab.shock(0);
        CHECK.same("of like ones the first", 360, lab.getSpring(0, 1));
        CHECK.same("the stiffest is whole", 500, lab.getSpring(0, 0));
        CHECK.same("the like one is whole", 400, lab.getSpring(0, 2));
        for (int i = 2; i <= 9; i++) {
            lab.shock(0);
            CHECK.same("the softer, the sooner", i, lab.getCracks(0));
        }
        CHECK.same("a tenth is left", 40, lab.getSpring(0, 1));
        lab.shock(0);
        CHECK.same("no tenth crack, and none elsewhere", 9, lab.getCracks(0));
        CHECK.same("damage is 0 in any case", 0L, lab.getDamage(0));

        Shakerhall counted = shaken();
        counted.setLife(0, 1);
        for (int i = 0; i < 3; i++) {
            counted.crack(0, 0);
        }
        counted.shock(0);
        CHECK.same("350 is the softest, cracks counted", 300, counted.getSpring(0, 0));
        CHECK.same("the others are whole", 4, counted.getCracks(0));
    }

    private static void wrongCalls() {
        new Twins(CHECK, Shakerhall::addStructure)
                .fails("structure ahead of life", NONE, lab -> lab.setLife(1, 0))
                .fails("structure below 0", NONE, lab -> lab.setLife(-1, 1))
                .fails("life 0", RANGE, lab -> lab.setLife(0, 0))
                .fails("life 1000000001", RANGE, lab -> lab.setLife(0, 1000000001))
                .fails("damage: no structure", NONE, lab -> lab.getDamage(1))
                .fails("damage: structure below 0", NONE, lab -> lab.getDamage(-1))
                .fails("cracks: no structure", NONE, lab -> lab.getCracks(1))
                .fails("cracks: structure below 0", NONE, lab -> lab.getCracks(-1))
                .areAlike("a wrong call of fatigue");
    }
}
