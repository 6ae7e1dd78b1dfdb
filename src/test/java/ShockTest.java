/** Promises 32 to 36: sweeps, typed places, shocks and their spectrum. */
final class ShockTest {
    private static final Check CHECK = new Check("ShockTest");
    private static final Class<IndexOutOfBoundsException> NONE = IndexOutOfBoundsException.class;
    private static final Class<IllegalArgumentException> RANGE = IllegalArgumentException.class;
    private static final Class<IllegalStateException> FULL = IllegalStateException.class;
    private static final Class<UnsupportedOperationException> CANNOT = UnsupportedOperationException.class;

    public static void main(String[] args) {
        sweeps();
        wrongSweeps();
        typing();
        shocks();
        wrongShocks();
        spectrum();
        CHECK.end();
    }

    private static void sweeps() {
        Shakerhall lab = Labs.tower();
        Model model = new Model();
        model.addStructure();
        model.addMass(0, 10, 500, 5);
        model.addMass(0, 4, 300, 2);
        int[][] all = {{4, 64, 1}, {64, 4, 1}, {4, 64, 99}, {64, 4, 99}, {10, 30, 40}, {30, 10, 40}, {20, 20, 99},
            {18, 19, 3}, {19, 18, 3}, {40, 12, 7}};
        for (int[] one : all) {
            CHECK.same("sweep " + one[0] + " " + one[1] + " " + one[2],
                    model.sweep(0, one[0], one[1], one[2]), lab.sweep(0, one[0], one[1], one[2]));
        }
        heavySweeps();
        Shakerhall still = new Shakerhall();
        still.addStructure();
        still.addMass(0, 1, 1, 0);
        still.crack(0, 0);
        CHECK.same("of like ones the first, down", 40, still.sweep(0, 40, 9, 3));
        CHECK.same("of like ones the first, up", 9, still.sweep(0, 9, 40, 3));
        CHECK.same("one period", 33, still.sweep(0, 33, 33, 1));
    }

    /** Here a sweep comes no farther than a place or two, or none at all. */
    private static void heavySweeps() {
        Model model = new Model();
        model.addStructure();
        model.addMass(0, 99, 1, 0);
        for (int from = 4; from <= 14; from++) {
            Shakerhall lab = new Shakerhall();
            lab.addStructure();
            lab.addMass(0, 99, 1, 0);
            for (int to = 4; to <= 14; to++) {
                for (int steps = 1; steps <= 40; steps++) {
                    CHECK.same("heavy sweep " + from + " " + to + " " + steps,
                            model.sweep(0, from, to, steps), lab.sweep(0, from, to, steps));
                }
            }
        }
    }

    private static void wrongSweeps() {
        Shakerhall lab = new Shakerhall();
        lab.addStructure();
        CHECK.fails("structure goes first", NONE, () -> lab.sweep(1, 3, 65, 0));
        CHECK.fails("structure below 0", NONE, () -> lab.sweep(-1, 4, 8, 1));
        CHECK.fails("from 3 ahead of no masses", RANGE, () -> lab.sweep(0, 3, 8, 1));
        CHECK.fails("from 65", RANGE, () -> lab.sweep(0, 65, 8, 1));
        CHECK.fails("to 3", RANGE, () -> lab.sweep(0, 8, 3, 1));
        CHECK.fails("to 65", RANGE, () -> lab.sweep(0, 8, 65, 1));
        CHECK.fails("steps 0", RANGE, () -> lab.sweep(0, 8, 9, 0));
        CHECK.fails("steps 100", RANGE, () -> lab.sweep(0, 8, 9, 100));
        CHECK.fails("no masses", CANNOT, () -> lab.sweep(0, 8, 9, 1));
    }

    private static void typing() {
        Shakerhall lab = new Shakerhall();
        CHECK.same("least", 1, lab.type(-99999));
        CHECK.same("greatest", 2, lab.type(99999));
        CHECK.same("wipe", 2, lab.wipe());
        CHECK.same("wipe again", 0, lab.wipe());
        for (int i = 1; i <= 24; i++) {
            CHECK.same("type", i, lab.type(i * 1000 * (i % 2 * 2 - 1)));
        }
        CHECK.same("cycles of 24, each wider than the one ahead", 11, lab.countCycles());
        CHECK.fails("a 25th", FULL, () -> lab.type(5));
        CHECK.fails("range ahead of full", RANGE, () -> lab.type(100000));
        CHECK.fails("below", RANGE, () -> lab.type(-100000));
        CHECK.same("cycles are the same", 11, lab.countCycles());
        CHECK.same("wipe all", 24, lab.wipe());
        CHECK.fails("range on an empty row", RANGE, () -> lab.type(Integer.MIN_VALUE));
        CHECK.same("nothing came", 0, lab.wipe());
    }

    private static void shocks() {
        Shakerhall lab = new Shakerhall();
        lab.addStructure();
        lab.addMass(0, 16, 9984, 0);
        lab.type(-1);
        CHECK.same("places -2, 0, 2, 0", 2, lab.shock(0));
        CHECK.same("the same again from rest", 2, lab.shock(0));
        lab.getResponse(0, 0, 16);
        CHECK.same("the same behind a tone", 2, lab.shock(0));
        CHECK.same("they stay typed", 1, lab.wipe());
        lab.type(0);
        CHECK.same("nothing moves", 0, lab.shock(0));

        Shakerhall late = new Shakerhall();
        late.addStructure();
        late.addMass(0, 99, 1, 0);
        late.type(1584);
        late.type(1584);
        // speed 2 and never less: table and place are too near to pull; 2 / 16 moves nothing
        CHECK.same("a heavy mass stays", 0, late.shock(0));
        for (int i = 2; i < 16; i++) {
            late.type(1584);
        }
        // speed 16 at the 16th step, so one place a step, 65 steps in all; 65 / 1584 pulls nothing back
        CHECK.same("64 steps of quiet", 65, late.shock(0));

        Shakerhall two = Labs.tower();
        two.type(10);
        Model model = new Model();
        model.addStructure();
        model.addMass(0, 10, 500, 5);
        model.addMass(0, 4, 300, 2);
        model.type(10);
        for (int i = 0; i < 20; i++) {
            two.type(i * 731);
            model.type(i * 731);
            CHECK.same("the last mass of two", model.shock(0), two.shock(0));
        }
    }

    private static void wrongShocks() {
        Shakerhall lab = new Shakerhall();
        CHECK.fails("no structure", NONE, () -> lab.shock(0));
        lab.addStructure();
        CHECK.fails("neither masses nor typed", CANNOT, () -> lab.shock(0));
        lab.type(5000);
        CHECK.fails("no masses", CANNOT, () -> lab.shock(0));
        CHECK.fails("structure below 0", NONE, () -> lab.shock(-1));
        lab.addMass(0, 1, 500, 0);
        lab.wipe();
        CHECK.fails("nothing typed", CANNOT, () -> lab.shock(0));
        CHECK.same("no damage came", 0L, lab.getDamage(0));
    }

    private static void spectrum() {
        Shakerhall lab = new Shakerhall();
        CHECK.fails("nothing typed", CANNOT, () -> lab.getSpectrum(4));
        CHECK.fails("range ahead of nothing typed", RANGE, () -> lab.getSpectrum(3));
        CHECK.fails("period 65", RANGE, () -> lab.getSpectrum(65));
        lab.type(0);
        CHECK.same("nothing moves", 0, lab.getSpectrum(64));
        lab.wipe();
        lab.type(1);
        CHECK.same("places 2, 0, -2, 0 on the table at 1, 0, 0, 0", 2, lab.getSpectrum(4));
        lab.wipe();
        lab.type(32);
        // spring 39: 39 * 32 / 256 is 4, which moves nothing
        CHECK.same("away from the table alone", 32, lab.getSpectrum(64));
        lab.type(-32);
        CHECK.same("away the other way", 32, lab.getSpectrum(64));
        lab.wipe();
        lab.type(-38259);
        lab.type(-11572);
        CHECK.same("a 65th step of quiet would be farther", 31567, lab.getSpectrum(10));
        lab.wipe();
        Model model = new Model();
        int[] row = {5000, -3000, 4000, 4000, -99999, 99999};
        for (int place : row) {
            lab.type(place);
            model.type(place);
        }
        for (int period = 4; period <= 64; period++) {
            CHECK.same("spectrum at " + period, model.getSpectrum(period), lab.getSpectrum(period));
        }
        for (int i = 1; i <= 18; i++) {
            lab.type(i * 5555 * (i % 3 - 1));
            model.type(i * 5555 * (i % 3 - 1));
            for (int period = 4; period <= 64; period += 5) {
                CHECK.same("spectrum at " + period, model.getSpectrum(period), lab.getSpectrum(period));
            }
        }
        lab.wipe();
        for (int place : row) {
            lab.type(place);
        }
        CHECK.same("it needs no structure", 124028, lab.getSpectrum(8));
        CHECK.same("they stay typed", 6, lab.wipe());
    }
}
