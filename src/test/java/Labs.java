/** Laboratories that several tests begin with. */
final class Labs {
    private Labs() {
    }

    /** One structure of two masses, whose answers the shared runs tell. */
    static Shakerhall tower() {
        Shakerhall lab = new Shakerhall();
        lab.addStructure();
        lab.addMass(0, 10, 500, 5);
        lab.addMass(0, 4, 300, 2);
        return lab;
    }

    /** A specification, and a structure that answers every band with 32500: a sensor on it reads its limit. */
    static void lively(Shakerhall lab) {
        lab.addStructure();
        lab.addMass(0, 1, 1600, 0);
        lab.addSpecification();
    }

    /** A run on the lively structure with a sensor for each limit, all of weight 1. */
    static Shakerhall run(char way, int... limits) {
        Shakerhall lab = new Shakerhall();
        lively(lab);
        lab.addRun(0, 0, way);
        for (int i = 0; i < limits.length; i++) {
            lab.addSensor(0, 0, 100, limits[i]);
            lab.addControl(0, i, 1);
        }
        return lab;
    }
}
