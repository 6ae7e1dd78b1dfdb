/** Promises 8 to 13: sensors and specifications. */
final class SensorTest {
    private static final Check CHECK = new Check("SensorTest");
    private static final Class<IndexOutOfBoundsException> NONE = IndexOutOfBoundsException.class;
    private static final Class<IllegalArgumentException> RANGE = IllegalArgumentException.class;
    private static final Class<IllegalStateException> FULL = IllegalStateException.class;

    public static void main(String[] args) {
        sensors();
        wrongSensors();
        loose();
        readings();
        specifications();
        wrongSpecifications();
        CHECK.end();
    }

    private static void sensors() {
        Shakerhall lab = Labs.tower();
        CHECK.same("least of all", 0, lab.addSensor(0, 0, 50, 1));
        CHECK.same("most of all", 1, lab.addSensor(0, 1, 150, 1000000));
        for (int i = 2; i < 8; i++) {
            CHECK.same("addSensor", i, lab.addSensor(0, 0, 100, 1000000));
        }
    }

    private static void eightSensors(Shakerhall lab) {
        lab.addStructure();
        lab.addMass(0, 10, 500, 5);
        for (int i = 0; i < 8; i++) {
            lab.addSensor(0, 0, 100, 1000 + i);
        }
    }

    private static void wrongSensors() {
        new Twins(CHECK, SensorTest::eightSensors)
                .fails("no structure goes first", NONE, lab -> lab.addSensor(1, 0, 49, 0))
                .fails("structure below 0", NONE, lab -> lab.addSensor(-1, 0, 100, 1))
                .fails("no mass goes first", NONE, lab -> lab.addSensor(0, 1, 49, 0))
                .fails("mass below 0", NONE, lab -> lab.addSensor(0, -1, 100, 1))
                .fails("gain 49, ahead of full", RANGE, lab -> lab.addSensor(0, 0, 49, 1))
                .fails("gain 151", RANGE, lab -> lab.addSensor(0, 0, 151, 1))
                .fails("limit 0", RANGE, lab -> lab.addSensor(0, 0, 100, 0))
                .fails("limit 1000001", RANGE, lab -> lab.addSensor(0, 0, 100, 1000001))
                .fails("a ninth", FULL, lab -> lab.addSensor(0, 0, 100, 1))
                .areAlike("addSensor");
    }

    private static void loose() {
        Shakerhall lab = Labs.tower();
        lab.addSensor(0, 0, 100, 1000000);
        lab.addSensor(0, 0, 100, 1000000);
        CHECK.same("fast at first", false, lab.setLoose(0, true));
        CHECK.same("loose by now", true, lab.setLoose(0, true));
        CHECK.same("a loose one reads", 0, lab.read(0, 16));
        CHECK.same("the other one reads", 8685, lab.read(1, 16));
        CHECK.same("still loose", true, lab.setLoose(0, false));
        CHECK.same("fast again", false, lab.setLoose(0, false));
        CHECK.same("it reads again", 8685, lab.read(0, 16));
        CHECK.fails("no such sensor", NONE, () -> lab.setLoose(2, true));
        CHECK.fails("sensor below 0", NONE, () -> lab.setLoose(-1, true));
    }

    private static void readings() {
        Shakerhall lab = Labs.tower();
        lab.addSensor(0, 0, 50, 1000000);
        lab.addSensor(0, 1, 150, 1000000);
        lab.addSensor(0, 0, 100, 8685);
        lab.addSensor(0, 0, 100, 8684);
        CHECK.same("half of 8685, cut", 4342, lab.read(0, 16));
        CHECK.same("half more of 16428", 24642, lab.read(1, 16));
        CHECK.same("at the limit", 8685, lab.read(2, 16));
        CHECK.same("clipped", 8684, lab.read(3, 16));
        CHECK.same("another period", lab.getResponse(0, 0, 64) * 50 / 100, lab.read(0, 64));
        CHECK.fails("sensor ahead of period", NONE, () -> lab.read(4, 3));
        CHECK.fails("sensor below 0", NONE, () -> lab.read(-1, 16));
        CHECK.fails("period 3", RANGE, () -> lab.read(0, 3));
        CHECK.fails("period 65", RANGE, () -> lab.read(0, 65));
        CHECK.yes("shortest period", lab.read(1, 4) > 0);
    }

    private static void specifications() {
        Shakerhall lab = new Shakerhall();
        for (int i = 0; i < 4; i++) {
            CHECK.same("addSpecification", i, lab.addSpecification());
        }
        for (int band = 0; band < 8; band++) {
            CHECK.same("level at first", 0, lab.setLevel(3, band, 100 + band));
            CHECK.same("tolerance at first", 10, lab.setTolerance(3, band, 20 + band));
        }
        for (int band = 0; band < 8; band++) {
            CHECK.same("level before", 100 + band, lab.setLevel(3, band, 99999));
            CHECK.same("tolerance before", 20 + band, lab.setTolerance(3, band, 50));
        }
        CHECK.same("greatest level", 99999, lab.setLevel(3, 7, 0));
        CHECK.same("greatest tolerance", 50, lab.setTolerance(3, 7, 1));
        CHECK.same("least level", 0, lab.setLevel(3, 7, 0));
        CHECK.same("least tolerance", 1, lab.setTolerance(3, 7, 1));
        CHECK.same("another specification", 0, lab.setLevel(2, 7, 1));
        CHECK.same("tolerance of another one", 10, lab.setTolerance(2, 7, 1));
    }

    private static void fourSpecifications(Shakerhall lab) {
        for (int i = 0; i < 4; i++) {
            lab.addSpecification();
            lab.setLevel(i, 0, 50 + i);
        }
    }

    private static void wrongSpecifications() {
        new Twins(CHECK, SensorTest::fourSpecifications)
                .fails("a fifth", FULL, Shakerhall::addSpecification)
                .fails("level: specification ahead of band", NONE, lab -> lab.setLevel(4, 8, -1))
                .fails("level: specification below 0", NONE, lab -> lab.setLevel(-1, 0, 1))
                .fails("level: band 8", RANGE, lab -> lab.setLevel(0, 8, 1))
                .fails("level: band -1", RANGE, lab -> lab.setLevel(0, -1, 1))
                .fails("level -1", RANGE, lab -> lab.setLevel(0, 0, -1))
                .fails("level 100000", RANGE, lab -> lab.setLevel(0, 0, 100000))
                .fails("tolerance: specification ahead of band", NONE, lab -> lab.setTolerance(4, 8, 0))
                .fails("tolerance: specification below 0", NONE, lab -> lab.setTolerance(-1, 0, 1))
                .fails("tolerance: band 8", RANGE, lab -> lab.setTolerance(0, 8, 1))
                .fails("tolerance: band -1", RANGE, lab -> lab.setTolerance(0, -1, 1))
                .fails("tolerance 0", RANGE, lab -> lab.setTolerance(0, 0, 0))
                .fails("tolerance 51", RANGE, lab -> lab.setTolerance(0, 0, 51))
                .areAlike("a wrong call of a specification");
    }
}
