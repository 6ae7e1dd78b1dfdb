import java.util.function.Consumer;

/** The edges of promises 14 to 19: runs, their control sensors, and what their bands have and are due. */
final class RunEdges {
    private static final String WAYS = "mxn";
    private static final Consumer<Shakerhall> FIVE = lab -> runs(lab, 5);
    private static final Consumer<Shakerhall> SIX = lab -> runs(lab, 6);
    private static final Consumer<Shakerhall> MASSES_OF_ONE_ALONE = lab -> {
        Labs.lively(lab);
        lab.addStructure();
    };
    private static final Consumer<Shakerhall> THREE_CONTROLS = lab -> controls(lab, 3);
    private static final Consumer<Shakerhall> FOUR_CONTROLS = lab -> controls(lab, 4);

    private RunEdges() {
    }

    static void run(Edges edges) {
        numbers(edges);
        ways(edges);
        controls(edges);
        wrongControls(edges);
        drives(edges);
        bands(edges);
        greatBands(edges);
        due(edges);
        inBand(edges);
        numbersOfBands(edges);
    }

    private static void runs(Shakerhall lab, int count) {
        Labs.lively(lab);
        for (int i = 0; i < count; i++) {
            lab.addRun(0, 0, WAYS.charAt(i % 3));
        }
    }

    /** A run with some control sensors, of five on its structure; the sixth one is on another structure. */
    private static void controls(Shakerhall lab, int count) {
        Labs.lively(lab);
        lab.addStructure();
        lab.addMass(1, 1, 1600, 0);
        for (int i = 0; i < 5; i++) {
            lab.addSensor(0, 0, 100, 1000 + i);
        }
        lab.addSensor(1, 0, 100, 1000);
        lab.addRun(0, 0, 'm');
        for (int i = 0; i < count; i++) {
            lab.addControl(0, i, 1 + i);
        }
    }

    private static void numbers(Edges edges) {
        edges.of("Specifications", "At most 6 runs are numbered from 0, each with a structure, a specification, and");
        Shakerhall lab = Edges.made(Labs.LIVELY);
        for (int i = 0; i < 6; i++) {
            edges.same("numbers", i, lab.addRun(0, 0, WAYS.charAt(i % 3)));
            edges.same("it goes", 'g', lab.getState(i));
        }
        edges.of(14, "Throws `IllegalStateException` if there were 6");
        edges.allowed("a sixth one", FIVE, l -> l.addRun(0, 0, 'n'));
        edges.refused("a seventh one", Edges.FULL, SIX, l -> l.addRun(0, 0, 'n'));
        edges.refused("a seventh one among all", Edges.FULL, Labs.ALL, l -> l.addRun(5, 3, 'm'));
        edges.of(14, "Throws `IndexOutOfBoundsException` if there is no such structure, or specification");
        edges.row(Shakerhall::addSpecification, 0, (l, n) -> l.addRun(n, 0, 'm'));
        edges.row(Labs.BARE, 0, (l, n) -> l.addRun(0, n, 'm'));
        edges.row(MASSES_OF_ONE_ALONE, 2, (l, n) -> l.addRun(n, 0, 'm'));
        edges.row(MASSES_OF_ONE_ALONE, 1, (l, n) -> l.addRun(0, n, 'm'));
        edges.row(Labs.ALL, 6, (l, n) -> l.addRun(n, 3, 'm'));
        edges.row(Labs.ALL, 4, (l, n) -> l.addRun(5, n, 'm'));
        edges.of(14, "Throws `UnsupportedOperationException` if the structure has no masses");
        edges.refused("no mass", Edges.CANNOT, MASSES_OF_ONE_ALONE, l -> l.addRun(1, 0, 'm'));
        edges.allowed("one mass", MASSES_OF_ONE_ALONE, l -> l.addRun(0, 0, 'm'));
    }

    private static void ways(Edges edges) {
        edges.of(14, "Throws `IllegalArgumentException` if there is no such way");
        for (int i = 0; i <= 256; i++) {
            char way = (char) (i == 256 ? 65535 : i);
            if (WAYS.indexOf(way) >= 0) {
                edges.allowed("way " + way, Labs.LIVELY, lab -> lab.addRun(0, 0, way));
            } else {
                edges.refused("way " + i, Edges.RANGE, Labs.LIVELY, lab -> lab.addRun(0, 0, way));
            }
        }
    }

    private static void controls(Edges edges) {
        edges.of("Specifications", "and control sensors on this structure, at most 4, with a weight of 1 to 9 each.");
        Shakerhall lab = Edges.made(l -> controls(l, 0));
        for (int i = 1; i <= 4; i++) {
            edges.same("how many it has", i, lab.addControl(0, i, 9));
        }
        lab.addRun(0, 0, 'x');
        edges.same("a sensor may control another run", 1, lab.addControl(1, 4, 9));
        edges.of(15, "`weight`: 1 to 9");
        edges.range(THREE_CONTROLS, 1, 9, (l, n) -> l.addControl(0, 4, n));
        edges.of(15, "Throws `IllegalArgumentException` if a number is out of range");
        edges.range(l -> controls(l, 0), 1, 9, (l, n) -> l.addControl(0, 0, n));
        edges.of(15, "Throws `IllegalStateException` if it has 4");
        edges.allowed("a fourth one", THREE_CONTROLS, l -> l.addControl(0, 4, 1));
        edges.refused("a fifth one", Edges.FULL, FOUR_CONTROLS, l -> l.addControl(0, 4, 1));
        edges.refused("a fifth one among all", Edges.FULL, Labs.ALL, l -> l.addControl(0, 4, 9));
    }

    private static void wrongControls(Edges edges) {
        edges.of(15, "Throws `IndexOutOfBoundsException` if there is no such run, or sensor");
        edges.row(Labs.LIVELY, 0, (lab, n) -> lab.addControl(n, 0, 1));
        edges.row(FIVE, 0, (lab, n) -> lab.addControl(0, n, 1));
        edges.row(Labs.ONE_RUN, 1, (lab, n) -> lab.addControl(n, 0, 1));
        edges.row(Labs.ONE_RUN, 1, (lab, n) -> lab.addControl(0, n, 1));
        edges.row(Labs.ALL, 6, (lab, n) -> lab.addControl(n, 4, 1));
        edges.row(Labs.ALL, 8, (lab, n) -> lab.addControl(1, n, 1));
        edges.of(15, "Throws `UnsupportedOperationException` if the sensor is on another structure, or a control");
        edges.refused("on another structure", Edges.CANNOT, THREE_CONTROLS, lab -> lab.addControl(0, 5, 1));
        edges.refused("on another structure, the first one", Edges.CANNOT, lab -> controls(lab, 0),
                lab -> lab.addControl(0, 5, 1));
        edges.refused("the first one of the run", Edges.CANNOT, THREE_CONTROLS, lab -> lab.addControl(0, 0, 9));
        edges.refused("the last one of the run", Edges.CANNOT, THREE_CONTROLS, lab -> lab.addControl(0, 2, 9));
        edges.allowed("the next one", THREE_CONTROLS, lab -> lab.addControl(0, 3, 9));
    }

    private static void drives(Edges edges) {
        edges.of("Specifications", "Its drive of each band is 100 at first, in hundredths of the table.");
        Shakerhall lab = Labs.run('x', 77);
        for (int band = 0; band < 8; band++) {
            edges.same("drive of " + band, 100, lab.getDrive(0, band));
            edges.same("by which a sensor has what it reads", 77, lab.getBand(0, band));
        }
        edges.of("Specifications", "A control sensor has in a band what it reads of the response of its mass to the");
        int[] limits = {3, 7, 100};
        int[] dues = {1, 3, 1000};
        int[] driven = {33, 42, 1000};
        int[] has = {0, 2, 1000};
        for (int i = 0; i < 3; i++) {
            Shakerhall one = Labs.run('x', limits[i]);
            Labs.levels(one, 8 * dues[i]);
            one.turnLoop(0);
            edges.same("drive", driven[i], one.getDrive(0, 7));
            edges.same(limits[i] + " times " + driven[i] + ", divided by 100, cut", has[i], one.getBand(0, 7));
        }
    }

    private static void bands(Edges edges) {
        edges.of("Specifications", "What the band has is, by the way of control, 'm' the mean of these by weights,");
        int[] limits = {201, 100, 303};
        int[] weights = {1, 9, 2};
        int[][] due = {{201, 201, 201}, {110, 201, 100}, {142, 303, 100}};
        for (int way = 0; way < 3; way++) {
            Shakerhall lab = Edges.made(Labs.LIVELY);
            lab.addRun(0, 0, WAYS.charAt(way));
            edges.same("0 without control sensors", 0, lab.getBand(0, 0));
            for (int i = 0; i < 3; i++) {
                lab.addSensor(0, 0, 100, limits[i]);
                lab.addControl(0, i, weights[i]);
                edges.same("way " + WAYS.charAt(way) + " of " + (i + 1), due[i][way], lab.getBand(0, 7));
            }
            lab.setLoose(0, true);
            // 900 and 606 of 12 parts
            edges.same("a loose one has 0", way == 0 ? 125 : way == 1 ? 303 : 0, lab.getBand(0, 7));
            lab.setLoose(1, true);
            lab.setLoose(2, true);
            edges.same("all loose", 0, lab.getBand(0, 7));
        }
        Shakerhall cut = Labs.run('m', 3, 103);
        Labs.levels(cut, 8 * 18);
        cut.turnLoop(0);
        edges.same("1800 divided by 53, cut", 33, cut.getDrive(0, 0));
        // by that they have 0 and 33, each cut, and not 34 together
        edges.same("the mean of 0 and 33", 16, cut.getBand(0, 0));
    }

    /** The greatest drives and the greatest response: three sensors of weight 9 that have 1000000000 each. */
    private static void greatBands(Edges edges) {
        edges.of("Specifications", "What the band has is, by the way of control, 'm' the mean of these by weights,");
        int[] due = {964285750, 1000000000, 1000};
        for (int way = 0; way < 3; way++) {
            Shakerhall lab = StepEdges.made(StepEdges.WALKING);
            lab.addSpecification();
            Labs.levels(lab, 99999);
            lab.addRun(0, 0, WAYS.charAt(way));
            lab.addSensor(0, 0, 100, 1);
            lab.addControl(0, 0, 1);
            for (int i = 1; i <= 3; i++) {
                lab.turnLoop(0);
                lab.addSensor(0, 1, 100, 1000000);
            }
            edges.same("the greatest drive", 100000, lab.getDrive(0, 0));
            edges.same("the greatest that can be felt", 1000000000, lab.getFelt(0, 0));
            for (int i = 1; i <= 3; i++) {
                lab.addControl(0, i, 9);
            }
            edges.same("way " + WAYS.charAt(way), due[way], lab.getBand(0, 0));
            edges.same("in band", false, lab.isInBand(0, 0));
            edges.yes("sound", lab.isSound());
        }
    }

    private static void due(Edges edges) {
        edges.of("Specifications", "What is due in a band is the level times 100 less the notch, divided by 100, cut");
        int[] levels = {99999, 99999, 99999, 0, 1, 8, 15, 799, 99};
        int[] notches = {0, 1, 90, 90, 0, 0, 0, 33, 90};
        int[][] due = {{12499, 24999, 49999, 99999}, {12374, 24749, 49499, 98999}, {1249, 2499, 4999, 9999},
            {0, 0, 0, 0}, {0, 0, 0, 1}, {1, 2, 4, 8}, {1, 3, 7, 15}, {66, 133, 267, 535}, {1, 2, 4, 9}};
        for (int i = 0; i < levels.length; i++) {
            Shakerhall lab = Labs.run('m');
            lab.sign(0, 7);
            lab.setNotch(0, 7, notches[i]);
            for (int stage = 0; stage <= 3; stage++) {
                lab.setLevel(0, 7, levels[i]);
                edges.same(levels[i] + " less " + notches[i] + " at " + stage, due[i][stage], lab.getDue(0, 7));
                edges.same("another band", 0, lab.getDue(0, 6));
                lab.setLevel(0, 7, 0);
                if (stage < 3) {
                    edges.same("stage", stage + 1, lab.raise(0));
                }
            }
        }
    }

    private static boolean in(int limit, int due, int tolerance) {
        Shakerhall lab = Labs.run('x', limit);
        lab.setLevel(0, 5, 8 * due);
        lab.setTolerance(0, 5, tolerance);
        return lab.isInBand(0, 5);
    }

    private static void inBand(Edges edges) {
        edges.of("Specifications", "A band is in band if what it has differs from what is due by at most the");
        int[] dues = {1000, 1000, 1000, 15, 3, 99, 100, 199, 12499};
        int[] tolerances = {10, 1, 50, 10, 50, 1, 1, 1, 50};
        int[] widths = {100, 10, 500, 1, 1, 0, 1, 1, 6249};
        for (int i = 0; i < dues.length; i++) {
            String what = dues[i] + " within " + tolerances[i] + " hundredths";
            edges.same(what + ", too little", false, in(dues[i] - widths[i] - 1, dues[i], tolerances[i]));
            edges.same(what + ", the least", true, in(dues[i] - widths[i], dues[i], tolerances[i]));
            edges.same(what + ", the most", true, in(dues[i] + widths[i], dues[i], tolerances[i]));
            edges.same(what + ", too much", false, in(dues[i] + widths[i] + 1, dues[i], tolerances[i]));
        }
        Shakerhall nothing = Labs.run('n');
        nothing.setTolerance(0, 0, 50);
        edges.same("0, and 0 is due", true, nothing.isInBand(0, 0));
        nothing.setLevel(0, 0, 8);
        edges.same("0, and 1 is due", false, nothing.isInBand(0, 0));
        edges.same("1, and 0 is due", false, in(1, 0, 50));
    }

    private static void numbersOfBands(Edges edges) {
        Edges.Of[] ofBand = {(lab, n) -> lab.getBand(0, n), (lab, n) -> lab.getDue(0, n),
            (lab, n) -> lab.isInBand(0, n), (lab, n) -> lab.getDrive(0, n)};
        Edges.Of[] ofRun = {(lab, n) -> lab.getBand(n, 7), (lab, n) -> lab.getDue(n, 7),
            (lab, n) -> lab.isInBand(n, 7), (lab, n) -> lab.getDrive(n, 7)};
        for (int i = 0; i < 4; i++) {
            edges.of(16 + i, "`band`: 0 to 7");
            edges.range(Labs.ONE_RUN, 0, 7, ofBand[i]);
            edges.noRun(16 + i, ofRun[i]);
            edges.of(16 + i, "Throws `IllegalArgumentException` if a number is out of range");
            edges.range(Labs.ALL, 0, 7, ofBand[i]);
        }
    }
}
