import java.util.function.Consumer;

/** Laboratories that several tests begin with. */
final class Labs {
    static final Consumer<Shakerhall> NEW = lab -> { };
    static final Consumer<Shakerhall> BARE = Shakerhall::addStructure;
    static final Consumer<Shakerhall> LIVELY = Labs::lively;
    static final Consumer<Shakerhall> TAKEN = lab -> {
        lively(lab);
        lab.takeSignature(0);
    };
    static final Consumer<Shakerhall> ONE_RUN = lab -> {
        lively(lab);
        lab.addSensor(0, 0, 100, 100);
        lab.addRun(0, 0, 'x');
        lab.addControl(0, 0, 1);
    };
    static final Consumer<Shakerhall> ALL = Labs::all;

    private Labs() {
    }

    /** One structure of two masses, whose answers the shared runs tell. */
    static Shakerhall tower() {
        Shakerhall lab = new Shakerhall();
        lab.addStructure();
        lab.addMass(0, 10, 500, 5);
        lab.addMass(0, 4, 300, 2);
        return lab;
    }

    /** A specification, and a structure that answers every band with 32500: a sensor on it reads its limit. */
    static void lively(Shakerhall lab) {
        lab.addStructure();
        lab.addMass(0, 1, 1600, 0);
        lab.addSpecification();
    }

    /** A run on the lively structure with a sensor for each limit, all of weight 1. */
    static Shakerhall run(char way, int... limits) {
        Shakerhall lab = new Shakerhall();
        lively(lab);
        lab.addRun(0, 0, way);
        for (int i = 0; i < limits.length; i++) {
            lab.addSensor(0, 0, 100, limits[i]);
            lab.addControl(0, i, 1);
        }
        return lab;
    }

    /** The same level in all bands of the first specification. */
    static void levels(Shakerhall lab, int level) {
        for (int band = 0; band < 8; band++) {
            lab.setLevel(0, band, level);
        }
    }

    static String events(Shakerhall lab) {
        StringBuilder all = new StringBuilder();
        for (int i = 0; i < lab.countEvents(0); i++) {
            all.append(lab.getEvent(0, i));
        }
        return all.toString();
    }

    /**
     * Every row is full, each structure and each specification is unlike the others, and something has
     * happened to each thing. Runs 0 to 2 are on the structure 0, the others on 1, 2 and 3; run 0 has all its
     * control sensors, run 4 is broken off, run 5 is at the top stage.
     */
    private static void all(Shakerhall lab) {
        for (int s = 0; s < 6; s++) {
            lab.addStructure();
            for (int m = 0; m < 4; m++) {
                lab.addMass(s, 5 + 7 * m + s, 300 + 91 * m + 13 * s, 3 + m);
            }
        }
        for (int i = 0; i < 8; i++) {
            lab.addSensor(i < 5 ? 0 : (i - 3) / 2, i % 4, 60 + 10 * i, 900000 + i);
        }
        for (int i = 0; i < 4; i++) {
            lab.addSpecification();
            lab.setTolerance(i, i, 20 + i);
        }
        levels(lab, 24000);
        lab.setLevel(1, 7, 99999);
        lab.setLevel(2, 0, 1000);
        for (int i = 0; i < 6; i++) {
            lab.addRun(i < 3 ? 0 : i - 2, i < 4 ? i : i == 4 ? 0 : 3, "mxn".charAt(i % 3));
        }
        for (int i = 0; i < 4; i++) {
            lab.addControl(0, i, i + 1);
        }
        lab.addControl(1, 4, 9);
        lab.addControl(4, 7, 5);
        for (int i = 0; i < 24; i++) {
            lab.type(i % 2 == 0 ? 9999 + 300 * i : -8888 - 300 * i);
        }
        happen(lab);
    }

    private static void happen(Shakerhall lab) {
        for (int i = 0; i < 9; i++) {
            lab.crack(5, 3);
            lab.sign(0, 0);
        }
        lab.crack(0, 1);
        lab.setLife(0, 999999);
        lab.shock(0);
        lab.takeSignature(1);
        lab.setLoose(6, true);
        lab.sign(1, 7);
        lab.sign(2, 0);
        lab.setNotch(2, 0, 45);
        lab.turnLoop(0);
        lab.turnLoop(3);
        lab.setAbort(4, 1);
        lab.turnLoop(4);
        for (int i = 0; i < 3; i++) {
            lab.raise(5);
        }
    }
}
