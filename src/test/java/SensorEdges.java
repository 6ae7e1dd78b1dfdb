import java.util.function.Consumer;

/** The edges of promises 8 to 10, and of the section Sensors. */
final class SensorEdges {
    private static final Consumer<Shakerhall> FOUR_MASSES = lab -> {
        lab.addStructure();
        for (int i = 0; i < 4; i++) {
            lab.addMass(0, 10 + i, 500 + i, 5 + i);
        }
    };
    private static final Consumer<Shakerhall> SEVEN = lab -> sensors(lab, 7);
    private static final Consumer<Shakerhall> EIGHT = lab -> sensors(lab, 8);

    private SensorEdges() {
    }

    static void run(Edges edges) {
        numbers(edges);
        ranges(edges);
        wrongNumbers(edges);
        readings(edges);
        loose(edges);
        wrongReadings(edges);
    }

    private static void sensors(Shakerhall lab, int count) {
        FOUR_MASSES.accept(lab);
        for (int i = 0; i < count; i++) {
            lab.addSensor(0, i % 4, 50 + i, 1000 + i);
        }
    }

    private static void numbers(Edges edges) {
        edges.of("Sensors", "At most 8 are numbered from 0, each on a mass of a structure, with a gain in hundredths");
        Shakerhall lab = Edges.made(FOUR_MASSES);
        for (int i = 0; i < 8; i++) {
            edges.same("numbers", i, lab.addSensor(0, i % 4, 100, 1000000));
            edges.same("each on its own mass", lab.getResponse(0, i % 4, 12), lab.read(i, 12));
        }
        edges.of(8, "Throws `IllegalStateException` if there were 8");
        edges.allowed("an eighth one", SEVEN, l -> l.addSensor(0, 3, 50, 1));
        edges.refused("a ninth one", Edges.FULL, EIGHT, l -> l.addSensor(0, 3, 50, 1));
        edges.refused("a ninth one among all", Edges.FULL, Labs.ALL, l -> l.addSensor(5, 0, 150, 1000000));
    }

    private static void ranges(Edges edges) {
        edges.of(8, "`gain`: 50 to 150");
        edges.range(FOUR_MASSES, 50, 150, (lab, n) -> lab.addSensor(0, 0, n, 1));
        edges.of(8, "`limit`: 1 to 1000000");
        edges.range(FOUR_MASSES, 1, 1000000, (lab, n) -> lab.addSensor(0, 0, 100, n));
        edges.of(8, "Throws `IllegalArgumentException` if a number is out of range");
        edges.refused("both", Edges.RANGE, FOUR_MASSES, lab -> lab.addSensor(0, 0, 49, 0));
        edges.range(SEVEN, 50, 150, (lab, n) -> lab.addSensor(0, 3, n, 1000000));
        edges.range(SEVEN, 1, 1000000, (lab, n) -> lab.addSensor(0, 3, 150, n));
    }

    private static void wrongNumbers(Edges edges) {
        edges.of(8, "`mass`: the mass, from 0");
        edges.row(Labs.BARE, 0, (lab, n) -> lab.addSensor(0, n, 100, 1));
        edges.row(Labs.LIVELY, 1, (lab, n) -> lab.addSensor(0, n, 100, 1));
        edges.row(FOUR_MASSES, 4, (lab, n) -> lab.addSensor(0, n, 100, 1));
        edges.of(8, "Throws `IndexOutOfBoundsException` if there is no such structure, or mass");
        edges.row(Labs.NEW, 0, (lab, n) -> lab.addSensor(n, 0, 100, 1));
        edges.row(Labs.LIVELY, 1, (lab, n) -> lab.addSensor(n, 0, 100, 1));
        edges.refused("a mass of another structure", Edges.NONE, lab -> {
            FOUR_MASSES.accept(lab);
            lab.addStructure();
        }, lab -> lab.addSensor(1, 0, 100, 1));
    }

    /** Of a response of 1600. */
    private static int reading(int gain, int limit) {
        Shakerhall lab = StepEdges.loose(StepEdges.FOLLOWER);
        lab.addSensor(0, 0, gain, limit);
        return lab.read(0, 64);
    }

    /** Of a response of 1000000. */
    private static int greatReading(int gain, int limit) {
        Shakerhall lab = StepEdges.made(StepEdges.WALKING);
        lab.addSensor(0, 1, gain, limit);
        return lab.read(0, 4);
    }

    private static void readings(Edges edges) {
        edges.of("Sensors", "What it reads of a response is the gain times that, divided by 100, cut, and the limit");
        edges.same("the least gain", 800, reading(50, 1000000));
        edges.same("the greatest gain", 2400, reading(150, 1000000));
        edges.same("the least limit", 1, reading(150, 1));
        edges.same("below the limit", 1600, reading(100, 1601));
        edges.same("at the limit", 1600, reading(100, 1600));
        edges.same("above the limit", 1599, reading(100, 1599));
        edges.same("it clips what is read, not the response", 800, reading(50, 1599));
        edges.same("it clips what the gain makes of it", 1700, reading(150, 1700));
        Shakerhall tower = Labs.tower();
        tower.addSensor(0, 0, 50, 1000000);
        tower.addSensor(0, 0, 51, 1000000);
        tower.addSensor(0, 0, 99, 1000000);
        edges.same("434250 of 100, cut", 4342, tower.read(0, 16));
        edges.same("442935 of 100, cut", 4429, tower.read(1, 16));
        edges.same("859815 of 100, cut", 8598, tower.read(2, 16));
        edges.same("the greatest response", 1000000, greatReading(100, 1000000));
        edges.same("the greatest response, the greatest gain", 1000000, greatReading(150, 1000000));
        edges.same("the greatest response, less gain", 990000, greatReading(99, 1000000));
        edges.same("the greatest response, less limit", 999999, greatReading(150, 999999));
        edges.same("the greatest response, the least of all", 1, greatReading(50, 1));
    }

    private static void loose(Edges edges) {
        edges.of("Sensors", "One can be loose: it reads 0.");
        Shakerhall lab = Labs.tower();
        lab.addSensor(0, 0, 100, 1000000);
        lab.addSensor(0, 0, 100, 1000000);
        edges.same("fast at first", false, lab.setLoose(0, false));
        edges.same("fast still", false, lab.setLoose(0, true));
        edges.same("a loose one", 0, lab.read(0, 16));
        edges.same("the other one", 8685, lab.read(1, 16));
        edges.same("loose", true, lab.setLoose(0, true));
        edges.same("loose still", true, lab.setLoose(0, false));
        edges.same("fast again", 8685, lab.read(0, 16));
        edges.same("the other one was never loose", false, lab.setLoose(1, false));
        edges.of(9, "Throws `IndexOutOfBoundsException` if there is no such sensor");
        edges.row(Labs.NEW, 0, (l, n) -> l.setLoose(n, true));
        edges.row(SEVEN, 7, (l, n) -> l.setLoose(n, true));
        edges.row(EIGHT, 8, (l, n) -> l.setLoose(n, true));
        edges.row(Labs.ALL, 8, (l, n) -> l.setLoose(n, n != 6));
    }

    private static void wrongReadings(Edges edges) {
        edges.of(10, "`period`: 4 to 64");
        edges.range(SEVEN, 4, 64, (lab, n) -> lab.read(0, n));
        edges.of(10, "Throws `IndexOutOfBoundsException` if there is no such sensor");
        edges.row(Labs.LIVELY, 0, (lab, n) -> lab.read(n, 16));
        edges.row(SEVEN, 7, (lab, n) -> lab.read(n, 4));
        edges.row(EIGHT, 8, (lab, n) -> lab.read(n, 64));
        edges.of(10, "Throws `IllegalArgumentException` if a number is out of range");
        edges.range(Labs.ALL, 4, 64, (lab, n) -> lab.read(7, n));
        edges.refused("of a loose one too", Edges.RANGE, Labs.ALL, lab -> lab.read(6, 65));
        edges.refused("period 0, by which nothing can be divided", Edges.RANGE, SEVEN, lab -> lab.read(0, 0));
    }
}
