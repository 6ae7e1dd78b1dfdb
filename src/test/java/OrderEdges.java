import java.util.function.Consumer;

/** Calls to which several exceptions apply, each pair of them that can come together. */
final class OrderEdges {
    /** A structure without masses, and nothing else. */
    private static final Consumer<Shakerhall> BARE_SPECIFIED = lab -> {
        lab.addStructure();
        lab.addSpecification();
    };
    private static final Consumer<Shakerhall> FULL_MASSES = lab -> {
        lab.addStructure();
        for (int i = 0; i < 4; i++) {
            lab.addMass(0, 10, 500, 5);
        }
    };
    /** Six runs, eight sensors, a run with all its control sensors, and structure 1 without masses. */
    private static final Consumer<Shakerhall> FULL_ROWS = lab -> {
        Labs.lively(lab);
        lab.addStructure();
        lab.addStructure();
        lab.addMass(2, 1, 1, 1);
        for (int i = 0; i < 7; i++) {
            lab.addSensor(0, 0, 100, 1000);
        }
        lab.addSensor(2, 0, 100, 1000);
        for (int i = 0; i < 6; i++) {
            lab.addRun(0, 0, 'm');
        }
        for (int i = 0; i < 4; i++) {
            lab.addControl(0, i, 1);
        }
    };
    private static final Consumer<Shakerhall> FULL_TYPED = lab -> {
        for (int i = 0; i < 24; i++) {
            lab.type(i);
        }
    };
    /** At the stage 3, out of band, and in the run 1 broken off there. */
    private static final Consumer<Shakerhall> TOP = lab -> {
        Labs.lively(lab);
        lab.addSensor(0, 0, 100, 100);
        for (int run = 0; run < 2; run++) {
            lab.addRun(0, 0, 'x');
            for (int i = 0; i < 3; i++) {
                lab.raise(run);
            }
            lab.addControl(run, 0, 1);
        }
        Labs.levels(lab, 100);
        lab.setAbort(1, 99);
        lab.turnLoop(1);
        lab.setLevel(0, 0, 99999);
    };

    private OrderEdges() {
    }

    static void run(Edges edges) {
        edges.of("Exceptions", "If several exceptions apply, the one that is listed first is thrown.");
        structures(edges);
        sensors(edges);
        specifications(edges);
        runs(edges);
        controls(edges);
        bands(edges);
        stages(edges);
        papers(edges);
        shocks(edges);
    }

    private static void structures(Edges edges) {
        edges.refused("addMass: 1 and 2", Edges.NONE, FULL_MASSES, lab -> lab.addMass(1, 0, 0, -1));
        edges.refused("addMass: 2 and 3", Edges.RANGE, FULL_MASSES, lab -> lab.addMass(0, 100, 1, 0));
        edges.refused("addMass: 2 and 3, spring", Edges.RANGE, FULL_MASSES, lab -> lab.addMass(0, 1, 0, 0));
        edges.refused("addMass: 2 and 3, damper", Edges.RANGE, FULL_MASSES, lab -> lab.addMass(0, 1, 1, 100));
        edges.refused("getResponse: structure and 2", Edges.NONE, FULL_MASSES, lab -> lab.getResponse(1, 0, 3));
        edges.refused("getResponse: mass and 2", Edges.NONE, FULL_MASSES, lab -> lab.getResponse(0, 4, 65));
        edges.refused("getFelt: 1 and 2", Edges.NONE, Labs.BARE, lab -> lab.getFelt(1, 8));
        edges.refused("setLife: 1 and 2", Edges.NONE, Labs.BARE, lab -> lab.setLife(1, 0));
    }

    private static void sensors(Edges edges) {
        edges.refused("addSensor: structure and 2", Edges.NONE, FULL_MASSES, lab -> lab.addSensor(1, 0, 49, 1));
        edges.refused("addSensor: mass and gain", Edges.NONE, FULL_MASSES, lab -> lab.addSensor(0, 4, 151, 1));
        edges.refused("addSensor: mass and limit", Edges.NONE, FULL_MASSES, lab -> lab.addSensor(0, 4, 100, 0));
        edges.refused("addSensor: structure and 3", Edges.NONE, FULL_ROWS, lab -> lab.addSensor(3, 0, 100, 1));
        edges.refused("addSensor: mass and 3", Edges.NONE, FULL_ROWS, lab -> lab.addSensor(1, 0, 100, 1));
        edges.refused("addSensor: gain and 3", Edges.RANGE, FULL_ROWS, lab -> lab.addSensor(0, 0, 151, 1));
        edges.refused("addSensor: limit and 3", Edges.RANGE, FULL_ROWS, lab -> lab.addSensor(0, 0, 100, 0));
        edges.refused("addSensor: all", Edges.NONE, FULL_ROWS, lab -> lab.addSensor(-1, -1, 0, 0));
        edges.refused("read: 1 and 2", Edges.NONE, FULL_ROWS, lab -> lab.read(8, 3));
    }

    private static void specifications(Edges edges) {
        edges.refused("setLevel: 1 and band", Edges.NONE, BARE_SPECIFIED, lab -> lab.setLevel(1, 8, 0));
        edges.refused("setLevel: 1 and level", Edges.NONE, BARE_SPECIFIED, lab -> lab.setLevel(1, 0, -1));
        edges.refused("setTolerance: 1 and band", Edges.NONE, BARE_SPECIFIED, lab -> lab.setTolerance(1, 8, 1));
        edges.refused("setTolerance: 1 and hundredths", Edges.NONE, BARE_SPECIFIED, lab -> lab.setTolerance(1, 0, 0));
    }

    private static void runs(Edges edges) {
        edges.refused("addRun: structure and 2", Edges.NONE, BARE_SPECIFIED, lab -> lab.addRun(1, 0, 'q'));
        edges.refused("addRun: specification and 2", Edges.NONE, BARE_SPECIFIED, lab -> lab.addRun(0, 1, 'q'));
        edges.refused("addRun: specification and 3", Edges.NONE, BARE_SPECIFIED, lab -> lab.addRun(0, 1, 'm'));
        edges.refused("addRun: structure and 4", Edges.NONE, FULL_ROWS, lab -> lab.addRun(3, 0, 'm'));
        edges.refused("addRun: specification and 4", Edges.NONE, FULL_ROWS, lab -> lab.addRun(0, 1, 'm'));
        edges.refused("addRun: 2 and 3", Edges.RANGE, BARE_SPECIFIED, lab -> lab.addRun(0, 0, 'q'));
        edges.refused("addRun: 2 and 4", Edges.RANGE, FULL_ROWS, lab -> lab.addRun(0, 0, 'q'));
        edges.refused("addRun: 3 and 4", Edges.CANNOT, FULL_ROWS, lab -> lab.addRun(1, 0, 'm'));
        edges.refused("addRun: all", Edges.NONE, FULL_ROWS, lab -> lab.addRun(1, 1, 'q'));
    }

    private static void controls(Edges edges) {
        edges.refused("addControl: run and 2", Edges.NONE, FULL_ROWS, lab -> lab.addControl(6, 0, 0));
        edges.refused("addControl: sensor and 2", Edges.NONE, FULL_ROWS, lab -> lab.addControl(1, 8, 0));
        edges.refused("addControl: sensor and 4", Edges.NONE, FULL_ROWS, lab -> lab.addControl(0, 8, 1));
        edges.refused("addControl: 2 and another structure", Edges.RANGE, FULL_ROWS, lab -> lab.addControl(1, 7, 10));
        edges.refused("addControl: 2 and a control sensor", Edges.RANGE, FULL_ROWS, lab -> lab.addControl(0, 0, 0));
        edges.refused("addControl: 2 and 4", Edges.RANGE, FULL_ROWS, lab -> lab.addControl(0, 4, 10));
        edges.refused("addControl: another structure and 4", Edges.CANNOT, FULL_ROWS, lab -> lab.addControl(0, 7, 1));
        edges.refused("addControl: a control sensor and 4", Edges.CANNOT, FULL_ROWS, lab -> lab.addControl(0, 3, 1));
    }

    private static void bands(Edges edges) {
        edges.refused("getBand: 1 and 2", Edges.NONE, FULL_ROWS, lab -> lab.getBand(6, 8));
        edges.refused("getDue: 1 and 2", Edges.NONE, FULL_ROWS, lab -> lab.getDue(6, 8));
        edges.refused("isInBand: 1 and 2", Edges.NONE, FULL_ROWS, lab -> lab.isInBand(6, 8));
        edges.refused("getDrive: 1 and 2", Edges.NONE, FULL_ROWS, lab -> lab.getDrive(6, 8));
        edges.refused("setAbort: 1 and 2", Edges.NONE, FULL_ROWS, lab -> lab.setAbort(6, 0));
        edges.refused("getEvent: 1 and 2", Edges.NONE, FULL_ROWS, lab -> lab.getEvent(6, -1));
    }

    private static void stages(Edges edges) {
        edges.refused("raise: not in band and 3", Edges.CANNOT, TOP, lab -> lab.raise(0));
        edges.refused("raise: broken off and 3", Edges.CANNOT, TOP, lab -> lab.raise(1));
        edges.refused("raise: broken off, all in band, and 3", Edges.CANNOT, lab -> {
            TOP.accept(lab);
            lab.setLevel(0, 0, 100);
        }, lab -> lab.raise(1));
        edges.refused("raise: 3 alone", Edges.FULL, lab -> {
            TOP.accept(lab);
            lab.setLevel(0, 0, 100);
        }, lab -> lab.raise(0));
    }

    private static void papers(Edges edges) {
        edges.refused("sign: 1 and 2", Edges.NONE, FULL_ROWS, lab -> lab.sign(6, 8));
        edges.refused("setNotch: 1 and band", Edges.NONE, FULL_ROWS, lab -> lab.setNotch(6, 8, 0));
        edges.refused("setNotch: 1 and hundredths", Edges.NONE, FULL_ROWS, lab -> lab.setNotch(6, 0, 91));
        edges.refused("setNotch: 1 and 3", Edges.NONE, FULL_ROWS, lab -> lab.setNotch(6, 0, 0));
        edges.refused("setNotch: band and 3", Edges.RANGE, FULL_ROWS, lab -> lab.setNotch(0, 8, 0));
        edges.refused("setNotch: hundredths and 3", Edges.RANGE, FULL_ROWS, lab -> lab.setNotch(0, 0, 91));
    }

    private static void shocks(Edges edges) {
        edges.refused("sweep: 1 and from", Edges.NONE, Labs.BARE, lab -> lab.sweep(1, 3, 8, 1));
        edges.refused("sweep: 1 and to", Edges.NONE, Labs.BARE, lab -> lab.sweep(1, 8, 65, 1));
        edges.refused("sweep: 1 and steps", Edges.NONE, Labs.BARE, lab -> lab.sweep(1, 8, 8, 0));
        edges.refused("sweep: from and 3", Edges.RANGE, Labs.BARE, lab -> lab.sweep(0, 65, 8, 1));
        edges.refused("sweep: to and 3", Edges.RANGE, Labs.BARE, lab -> lab.sweep(0, 8, 3, 1));
        edges.refused("sweep: steps and 3", Edges.RANGE, Labs.BARE, lab -> lab.sweep(0, 8, 8, 100));
        edges.refused("type: 1 and 2", Edges.RANGE, FULL_TYPED, lab -> lab.type(100000));
        edges.refused("shock: 1 and 2", Edges.NONE, Labs.BARE, lab -> lab.shock(1));
        edges.refused("getSpectrum: 1 and 2", Edges.RANGE, Labs.NEW, lab -> lab.getSpectrum(65));
    }
}
