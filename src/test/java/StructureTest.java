/** Promises 1 to 7: a new object, structures, masses, cracks, responses and resonance. */
final class StructureTest {
    private static final Check CHECK = new Check("StructureTest");
    private static final Class<IndexOutOfBoundsException> NONE = IndexOutOfBoundsException.class;
    private static final Class<IllegalArgumentException> RANGE = IllegalArgumentException.class;
    private static final Class<IllegalStateException> FULL = IllegalStateException.class;
    private static final Class<UnsupportedOperationException> CANNOT = UnsupportedOperationException.class;

    public static void main(String[] args) {
        newObject();
        structures();
        masses();
        wrongMasses();
        cracks();
        wrongCracks();
        responses();
        steps();
        resonance();
        CHECK.end();
    }

    private static void newObject() {
        Shakerhall lab = new Shakerhall();
        CHECK.same("checksum of a new one", 7L, lab.checksum());
        CHECK.fails("no structure", NONE, () -> lab.getCracks(0));
        CHECK.fails("no sensor", NONE, () -> lab.setLoose(0, true));
        CHECK.fails("no specification", NONE, () -> lab.setLevel(0, 0, 1));
        CHECK.fails("no run", NONE, () -> lab.getState(0));
        CHECK.same("nothing typed", 0, lab.wipe());
        CHECK.yes("sound", lab.isSound());
    }

    private static void structures() {
        Shakerhall lab = new Shakerhall();
        for (int i = 0; i < 6; i++) {
            CHECK.same("addStructure", i, lab.addStructure());
        }
        new Twins(CHECK, StructureTest::sixStructures)
                .fails("a seventh structure", FULL, Shakerhall::addStructure).areAlike("addStructure");
        CHECK.same("its masses", 1, lab.addMass(5, 1, 1, 0));
        CHECK.fails("it begins without masses", NONE, () -> lab.getSpring(4, 0));
    }

    private static void sixStructures(Shakerhall lab) {
        for (int i = 0; i < 6; i++) {
            lab.addStructure();
        }
    }

    private static void masses() {
        Shakerhall lab = new Shakerhall();
        lab.addStructure();
        lab.addStructure();
        CHECK.same("least of all", 1, lab.addMass(0, 1, 1, 0));
        CHECK.same("most of all", 2, lab.addMass(0, 99, 9999, 99));
        CHECK.same("another structure", 1, lab.addMass(1, 5, 55, 5));
        CHECK.same("third", 3, lab.addMass(0, 7, 70, 7));
        CHECK.same("fourth", 4, lab.addMass(0, 8, 80, 8));
        CHECK.same("first spring", 1, lab.getSpring(0, 0));
        CHECK.same("second spring", 9999, lab.getSpring(0, 1));
        CHECK.same("third spring", 70, lab.getSpring(0, 2));
        CHECK.same("fourth spring", 80, lab.getSpring(0, 3));
        CHECK.same("spring of the other", 55, lab.getSpring(1, 0));
        CHECK.fails("no fifth", NONE, () -> lab.getSpring(0, 4));
        CHECK.fails("none below", NONE, () -> lab.getSpring(0, -1));
        CHECK.fails("no third structure", NONE, () -> lab.getSpring(2, 0));
        CHECK.fails("no structure below", NONE, () -> lab.getSpring(-1, 0));
    }

    private static void fourMasses(Shakerhall lab) {
        lab.addStructure();
        for (int i = 0; i < 4; i++) {
            lab.addMass(0, 10, 500 + i, 5);
        }
    }

    private static void wrongMasses() {
        new Twins(CHECK, StructureTest::fourMasses)
                .fails("no structure goes first", NONE, lab -> lab.addMass(1, 0, 0, -1))
                .fails("structure below 0", NONE, lab -> lab.addMass(-1, 1, 1, 1))
                .fails("range goes ahead of full", RANGE, lab -> lab.addMass(0, 0, 1, 1))
                .fails("full", FULL, lab -> lab.addMass(0, 1, 1, 1))
                .areAlike("addMass on a full structure");
        new Twins(CHECK, Shakerhall::addStructure)
                .fails("mass 0", RANGE, lab -> lab.addMass(0, 0, 1, 0))
                .fails("mass 100", RANGE, lab -> lab.addMass(0, 100, 1, 0))
                .fails("mass below all", RANGE, lab -> lab.addMass(0, Integer.MIN_VALUE, 1, 0))
                .fails("spring 0", RANGE, lab -> lab.addMass(0, 1, 0, 0))
                .fails("spring 10000", RANGE, lab -> lab.addMass(0, 1, 10000, 0))
                .fails("damper -1", RANGE, lab -> lab.addMass(0, 1, 1, -1))
                .fails("damper 100", RANGE, lab -> lab.addMass(0, 1, 1, 100))
                .areAlike("addMass out of range");
    }

    private static void cracks() {
        Shakerhall lab = new Shakerhall();
        lab.addStructure();
        lab.addMass(0, 10, 505, 5);
        lab.addMass(0, 10, 19, 5);
        int[] springs = {454, 404, 353, 303, 252, 202, 151, 101, 50};
        for (int i = 0; i < 9; i++) {
            CHECK.same("crack", i + 1, lab.crack(0, 0));
            CHECK.same("spring with " + (i + 1), springs[i], lab.getSpring(0, 0));
        }
        CHECK.same("the other is whole", 19, lab.getSpring(0, 1));
        CHECK.same("crack of the other", 1, lab.crack(0, 1));
        CHECK.same("cut", 17, lab.getSpring(0, 1));
        CHECK.same("all cracks", 10, lab.getCracks(0));
    }

    private static void nineCracks(Shakerhall lab) {
        lab.addStructure();
        lab.addMass(0, 10, 500, 5);
        for (int i = 0; i < 9; i++) {
            lab.crack(0, 0);
        }
    }

    private static void wrongCracks() {
        new Twins(CHECK, StructureTest::nineCracks)
                .fails("no such structure", NONE, lab -> lab.crack(1, 0))
                .fails("structure below 0", NONE, lab -> lab.crack(-1, 0))
                .fails("no such mass", NONE, lab -> lab.crack(0, 1))
                .fails("mass below 0", NONE, lab -> lab.crack(0, -1))
                .fails("a tenth crack", FULL, lab -> lab.crack(0, 0))
                .areAlike("crack");
    }

    private static void responses() {
        Shakerhall lab = new Shakerhall();
        lab.addStructure();
        lab.addMass(0, 10, 500, 5);
        lab.addMass(0, 4, 300, 2);
        CHECK.same("first mass", 8685, lab.getResponse(0, 0, 16));
        CHECK.same("second mass", 16428, lab.getResponse(0, 1, 16));
        CHECK.same("the same again", 8685, lab.getResponse(0, 0, 16));
        Model model = new Model();
        model.addStructure();
        model.addMass(0, 10, 500, 5);
        model.addMass(0, 4, 300, 2);
        for (int period = 4; period <= 64; period++) {
            CHECK.same("period " + period, model.getResponse(0, 1, period), lab.getResponse(0, 1, period));
        }
        Shakerhall heavy = new Shakerhall();
        heavy.addStructure();
        heavy.addMass(0, 99, 1, 0);
        Model heavyModel = new Model();
        heavyModel.addStructure();
        heavyModel.addMass(0, 99, 1, 0);
        for (int period = 4; period <= 64; period++) {
            CHECK.same("heavy, period " + period, heavyModel.getResponse(0, 0, period), heavy.getResponse(0, 0, period));
        }
        CHECK.fails("structure ahead of period", NONE, () -> lab.getResponse(1, 0, 3));
        CHECK.fails("mass ahead of period", NONE, () -> lab.getResponse(0, 2, 3));
        CHECK.fails("mass below 0", NONE, () -> lab.getResponse(0, -1, 16));
        CHECK.fails("period 3", RANGE, () -> lab.getResponse(0, 0, 3));
        CHECK.fails("period 65", RANGE, () -> lab.getResponse(0, 0, 65));
        CHECK.fails("period 0", RANGE, () -> lab.getResponse(0, 0, 0));
    }

    /** Steps that were done by hand. */
    private static void steps() {
        Shakerhall heavy = new Shakerhall();
        heavy.addStructure();
        heavy.addMass(0, 99, 1, 0);
        // 1600 / 1584 is 1 up and 1 down, two steps each: the speed never comes to 16
        CHECK.same("a heavy mass stays", 0, heavy.getResponse(0, 0, 4));

        Shakerhall damped = new Shakerhall();
        damped.addStructure();
        damped.addMass(0, 1, 1, 1);
        damped.crack(0, 0);
        damped.type(100);
        // speed 1600 / 16, place 6; then -1700 / 16 leaves -6, which moves nothing
        CHECK.same("a damper alone", 6, damped.shock(0));

        Shakerhall swinging = new Shakerhall();
        swinging.addStructure();
        swinging.addMass(0, 16, 9984, 0);
        swinging.type(1);
        // speeds 39, -39, -39, 39, places 2, 0, -2, 0
        CHECK.same("a spring alone", 2, swinging.shock(0));

        Shakerhall wild = new Shakerhall();
        wild.addStructure();
        wild.addMass(0, 1, 9999, 0);
        // speeds 999900, -1000000, -1000000, places 62493, -7, -62507, and to and fro from there
        CHECK.same("speeds are kept within", 62507, wild.getResponse(0, 0, 4));

        Shakerhall far = new Shakerhall();
        far.addStructure();
        far.addMass(0, 6, 40, 76);
        far.addMass(0, 48, 7738, 3);
        far.addMass(0, 54, 59, 6);
        far.addMass(0, 4, 9, 0);
        int[] places = {41813, 99999, 1608, -61699, 99999, 99999, -99999, -63082, 69684, 99999, 18939, 99999, -26570,
            -99999, -23280, 99999, -99999, 47442, 99999, 99999, 19478, 84565, 86040, -15242};
        for (int place : places) {
            far.type(place);
        }
        CHECK.same("places are kept within", 1000000, far.shock(0));
    }

    private static void resonance() {
        Shakerhall lab = new Shakerhall();
        lab.addStructure();
        CHECK.fails("no masses", CANNOT, () -> lab.getResonance(0));
        CHECK.fails("no structure", NONE, () -> lab.getResonance(1));
        CHECK.fails("structure below 0", NONE, () -> lab.getResonance(-1));
        lab.addMass(0, 10, 500, 5);
        int found = lab.getResonance(0);
        for (int period = 4; period <= 64; period++) {
            int response = lab.getResponse(0, 0, period);
            CHECK.yes("resonance is greatest at " + period, period < found
                    ? response < lab.getResponse(0, 0, found) : response <= lab.getResponse(0, 0, found));
        }
        lab.addMass(0, 4, 300, 2);
        CHECK.same("of the last mass", 18, lab.getResonance(0));

        Shakerhall slow = new Shakerhall();
        slow.addStructure();
        slow.addMass(0, 99, 20, 0);
        CHECK.same("the longest", 64, slow.getResonance(0));

        Shakerhall limp = new Shakerhall();
        limp.addStructure();
        limp.addMass(0, 5, 9, 0);
        for (int i = 0; i < 9; i++) {
            limp.crack(0, 0);
        }
        CHECK.same("a spring without strength", 0, limp.getSpring(0, 0));
        CHECK.same("all responses are 0", 0, limp.getResponse(0, 0, 64));
        CHECK.same("of like ones the shortest", 4, limp.getResonance(0));
    }
}
