import java.util.Arrays;
import java.util.List;
import java.util.function.Consumer;

/** Where sentences meet: what several runs, sensors and structures share, and what each has of its own. */
final class SharingEdges {
    private static final int[] PERIODS = {4, 6, 8, 12, 16, 24, 32, 48};
    /** Two runs of one structure by one specification, the first with a sensor of 100, the second with one of 1000. */
    private static final Consumer<Shakerhall> TWO_RUNS = lab -> {
        Labs.lively(lab);
        for (int i = 0; i < 2; i++) {
            lab.addSensor(0, 0, 100, i == 0 ? 100 : 1000);
            lab.addRun(0, 0, 'x');
            lab.addControl(i, i, 1);
        }
    };

    private SharingEdges() {
    }

    static void run(Edges edges) {
        feltByTwoRuns(edges);
        overByAnother(edges);
        oneSpecification(edges);
        oneSensor(edges);
        brokenOffAlone(edges);
        minutesOfTwoRuns(edges);
        massBehind(edges);
        crackBehind(edges);
        lateAndEarly(edges);
        crackByShock(edges);
        typedForAll(edges);
        twoStructures(edges);
        questions(edges);
        whatStays(edges);
        onlyWhatIsAsked(edges);
    }

    private static String felt(Shakerhall lab, int structure) {
        int[] all = new int[8];
        for (int band = 0; band < 8; band++) {
            all[band] = lab.getFelt(structure, band);
        }
        return Arrays.toString(all);
    }

    private static String eight(int felt) {
        int[] all = new int[8];
        Arrays.fill(all, felt);
        return Arrays.toString(all);
    }

    private static void feltByTwoRuns(Edges edges) {
        edges.of("Specifications", "the most that was felt is kept of each structure and band.");
        Shakerhall lab = Edges.made(TWO_RUNS);
        lab.addStructure();
        lab.addMass(1, 1, 1600, 0);
        Labs.levels(lab, 8000);
        edges.same("the second run is in band", 8, lab.turnLoop(1));
        edges.same("by its drive of 100", eight(32500), felt(lab, 0));
        edges.same("the first run is in band then", 8, lab.turnLoop(0));
        edges.same("by its drive of 1000", eight(325000), felt(lab, 0));
        edges.same("the second run again", 8, lab.turnLoop(1));
        edges.same("the most of both", eight(325000), felt(lab, 0));
        edges.same("each run has its own drives", 1000.0, lab.meanDrive(0));
        edges.same("each run has its own drives", 100.0, lab.meanDrive(1));
        lab.addRun(1, 0, 'n');
        edges.same("a structure that was not shaken", eight(0), felt(lab, 1));
        lab.turnLoop(2);
        edges.same("each structure feels its own runs", eight(32500), felt(lab, 1));
        edges.same("and no other's", eight(325000), felt(lab, 0));
    }

    private static void overByAnother(Edges edges) {
        edges.of("Specifications", "A band is overtested if the structure felt more there than what is due in the run");
        Shakerhall lab = Edges.made(TWO_RUNS);
        lab.addRun(0, 0, 'm');
        lab.turnLoop(2);
        int[] levels = {29546, 29545};
        for (int level : levels) {
            Labs.levels(lab, level);
            for (int run = 0; run < 3; run++) {
                edges.same(level + " by a run that is not the " + run, level == 29545 ? 8 : 0, lab.countOver(run));
            }
        }
        edges.same("the first run did not turn", 0, lab.getMinutes(0));
        edges.same("nor has it an event", 0, lab.countEvents(0));
        Labs.levels(lab, 40000);
        lab.sign(0, 3);
        lab.setNotch(0, 3, 50);
        edges.same("20000 and 2000 by its own notch", 1, lab.countOver(0));
        edges.same("40000 without it", 0, lab.countOver(1));
        lab.addRun(0, lab.addSpecification(), 'n');
        edges.same("by another specification", 8, lab.countOver(3));
        lab.setLevel(1, 0, 29546);
        edges.same("whose levels are its own", 7, lab.countOver(3));
        edges.same("and not the first run's", 1, lab.countOver(0));
    }

    private static void oneSpecification(Edges edges) {
        edges.of("Specifications", "and that divided by 8, 4, 2 or 1, cut, by the stage of the run, 0 to 3, 0 at");
        Shakerhall lab = Edges.made(TWO_RUNS);
        lab.addSpecification();
        Labs.levels(lab, 800);
        edges.same("the first run goes up", 1, lab.raise(0));
        edges.same("the second one is not in band", "throws " + Edges.CANNOT.getName(),
                Check.outcome(() -> lab.raise(1)));
        edges.same("due at the stage 1", 200, lab.getDue(0, 7));
        edges.same("due at the stage 0", 100, lab.getDue(1, 7));
        lab.setLevel(0, 7, 1600);
        edges.same("a new level at the stage 1", 400, lab.getDue(0, 7));
        edges.same("a new level at the stage 0", 200, lab.getDue(1, 7));
        lab.setLevel(1, 7, 99999);
        edges.same("another specification's level", 400, lab.getDue(0, 7));
        edges.of("Specifications", "A band is in band if what it has differs from what is due by at most the");
        edges.same("100 and 200 within 20", false, lab.isInBand(0, 0));
        lab.setTolerance(1, 0, 50);
        edges.same("another specification's tolerance", false, lab.isInBand(0, 0));
        lab.setTolerance(0, 0, 50);
        edges.same("100 and 200 within 100", true, lab.isInBand(0, 0));
        edges.same("1000 and 100 within 50", false, lab.isInBand(1, 0));
        lab.setLevel(0, 0, 5360);
        edges.same("1000 and 670 within 335", true, lab.isInBand(1, 0));
        edges.same("100 and 1340 within 670", false, lab.isInBand(0, 0));
    }

    /** One sensor of 100 controls both runs, in the second one with another sensor, of 1000. */
    private static void oneSensor(Edges edges) {
        edges.of("Specifications", "A control sensor has in a band what it reads of the response of its mass to the");
        Shakerhall lab = Edges.made(TWO_RUNS);
        lab.addRun(0, 0, 'm');
        edges.same("it controls another run, too", 1, lab.addControl(2, 0, 3));
        edges.same("with others", 2, lab.addControl(2, 1, 1));
        edges.same("300 and 1000 of 4 parts", 325, lab.getBand(2, 5));
        edges.same("alone", 100, lab.getBand(0, 5));
        Labs.levels(lab, 8000);
        lab.turnLoop(0);
        edges.same("by the first run's drive of 1000", 1000, lab.getBand(0, 5));
        edges.same("by the third run's drive of 100", 325, lab.getBand(2, 5));
        edges.same("it reads what it did", 100, lab.read(0, 24));
        lab.turnLoop(2);
        edges.same("the drive of 325 and 1000", 307, lab.getDrive(2, 5));
        edges.same("921 and 3070 of 4 parts", 997, lab.getBand(2, 5));
        edges.of("Sensors", "One can be loose: it reads 0.");
        lab.setLoose(0, true);
        edges.same("loose in the first run", 0, lab.getBand(0, 5));
        edges.same("loose in the third run", 767, lab.getBand(2, 5));
        edges.same("the second run is not controlled by it", 1000, lab.getBand(1, 5));
    }

    private static String states(Shakerhall lab) {
        return "" + lab.getState(0) + lab.getState(1) + lab.getState(2);
    }

    private static void brokenOffAlone(Edges edges) {
        edges.of("Specifications", "it is then 'c' if some control sensor of it is loose, otherwise 'l'; 'g' as long");
        Shakerhall lab = Edges.made(TWO_RUNS);
        lab.addControl(0, 1, 1);
        lab.addRun(0, 0, 'n');
        lab.addControl(2, 0, 9);
        for (int run = 0; run < 3; run++) {
            lab.setAbort(run, 99);
        }
        lab.setLoose(0, true);
        edges.same("the other sensor is above the line", 0, lab.turnLoop(0));
        edges.same("one is loose", "cgg", states(lab));
        edges.same("no loose one", 0, lab.turnLoop(1));
        edges.same("each by its own sensors", "clg", states(lab));
        edges.same("0 is not above the line", 8, lab.turnLoop(2));
        lab.setLoose(0, false);
        edges.same("as it was broken off", "clg", states(lab));
        edges.same("100 is above the line", 0, lab.turnLoop(2));
        edges.same("all three", "cll", states(lab));
        edges.of("Specifications", "A run that was broken off can be taken up again, at the stage 0, all drives being");
        edges.same("minutes of the third", 1, lab.takeUp(2));
        edges.same("the others are not taken up", "clg", states(lab));
        edges.same("minutes of the first", 0, lab.takeUp(0));
        edges.same("nor is the second", "glg", states(lab));
        edges.same("events of the second", 1, lab.countEvents(1));
        edges.same("events of the third", 3, lab.countEvents(2));
        edges.same("its own drives", 100.0, lab.meanDrive(2));
        Shakerhall two = Edges.made(TWO_RUNS);
        Labs.levels(two, 8000);
        two.turnLoop(0);
        edges.same("the second goes up", 1, two.raise(1));
        two.setAbort(0, 999);
        two.turnLoop(0);
        two.takeUp(0);
        edges.same("due in the second", 2000, two.getDue(1, 0));
        edges.same("in band there", 0f, two.bandShare(1));
        two.turnLoop(1);
        edges.same("drives of the second", 200.0, two.meanDrive(1));
        edges.same("drives of the first", 100.0, two.meanDrive(0));
    }

    private static void minutesOfTwoRuns(Edges edges) {
        edges.of(20, "Throws `IllegalStateException` if it lasted for 99 minutes");
        Shakerhall lab = Edges.made(TWO_RUNS);
        Labs.levels(lab, 8000);
        for (int i = 1; i <= 99; i++) {
            lab.turnLoop(0);
            if (i % 33 == 0) {
                lab.turnLoop(1);
            }
        }
        edges.same("99 of its own", "throws " + Edges.FULL.getName(), Check.outcome(() -> lab.turnLoop(0)));
        edges.same("3 of its own", 3, lab.getMinutes(1));
        edges.same("a fourth one", 8, lab.turnLoop(1));
        edges.of(30, "breakings off, and takings up, the first 60.");
        edges.same("60 of the first", 60, lab.countEvents(0));
        edges.same("4 of the second", 4, lab.countEvents(1));
        lab.addRun(0, 0, 'm');
        edges.same("none of a new one", 0, lab.getMinutes(2));
        edges.same("a first one, without control sensors", 0, lab.turnLoop(2));
        edges.same("its minute", 1, lab.getMinutes(2));
    }

    /** A mass of 10, with a sensor, a run that it controls, and another run without control sensors. */
    private static Shakerhall watched() {
        Shakerhall lab = Edges.made(Labs.BARE);
        lab.addMass(0, 10, 500, 5);
        lab.addSensor(0, 0, 100, 1000000);
        lab.addSpecification();
        lab.addRun(0, 0, 'x');
        lab.addControl(0, 0, 1);
        lab.addRun(0, 0, 'm');
        return lab;
    }

    private static void massBehind(Edges edges) {
        edges.of("Structures", "less, if there is one behind it, the spring of that one times its own place less");
        Shakerhall lab = watched();
        edges.same("reads of one mass", 11708, lab.read(0, 16));
        edges.same("a run has of one mass", 11708, lab.getBand(0, 4));
        edges.same("signature of one mass", 29205, lab.takeSignature(0));
        edges.same("resonance of one mass", 14, lab.getResonance(0));
        lab.turnLoop(1);
        lab.addMass(0, 4, 300, 2);
        edges.same("reads of its mass still, with one behind it", 8685, lab.read(0, 16));
        edges.same("a run has of that", 8685, lab.getBand(0, 4));
        edges.of("Specifications", "the structure feels in each band the response of its last mass times the drive");
        edges.same("what one mass felt", "[954, 1654, 2754, 9560, 11708, 4012, 3999, 5311]", felt(lab, 0));
        lab.turnLoop(1);
        edges.same("the most of that and of the new last mass",
                "[1064, 1985, 5209, 9560, 16428, 9000, 5293, 7124]", felt(lab, 0));
        edges.of("Sensors", "At most 8 are numbered from 0, each on a mass of a structure, with a gain in hundredths");
        edges.same("a sensor on the new mass", 1, lab.addSensor(0, 1, 100, 1000000));
        edges.same("controls the run that was there", 2, lab.addControl(0, 1, 1));
        edges.same("the greatest of both", 16428, lab.getBand(0, 4));
        edges.of("Evidence", "One can be taken, in place of an earlier one, and held against what is so now");
        edges.same("of one mass, and now there are two", true, lab.differs(0));
        edges.same("resonance of two masses", 18, lab.getResonance(0));
        edges.same("signature of two masses", 46769, lab.takeSignature(0));
        edges.same("of two masses", false, lab.differs(0));
        edges.same("how many masses", 3, lab.addMass(0, 99, 9999, 99));
        edges.same("of three masses", true, lab.differs(0));
    }

    private static void crackBehind(Edges edges) {
        edges.of("Structures", "with n of them it is 10 - n tenths of what was told, cut.");
        Shakerhall lab = watched();
        lab.addMass(0, 4, 300, 2);
        lab.addSensor(0, 1, 50, 1000000);
        lab.addControl(0, 1, 1);
        edges.same("signature", 46769, lab.takeSignature(0));
        lab.turnLoop(1);
        lab.crack(0, 1);
        edges.same("the sensor ahead of the crack", 7641, lab.read(0, 16));
        edges.same("the sensor behind it, half of 15845", 7922, lab.read(1, 16));
        edges.same("a run has the greatest", 7922, lab.getBand(0, 4));
        edges.same("a response", 15845, lab.getResponse(0, 1, 16));
        edges.same("what was felt ahead of it", "[1064, 1985, 5209, 6939, 16428, 9000, 5293, 7124]", felt(lab, 0));
        lab.turnLoop(1);
        edges.same("and is felt with it", "[1064, 1985, 5209, 7067, 16428, 9000, 5640, 7249]", felt(lab, 0));
        edges.of("Evidence", "or the response is by more than a tenth, cut, of that taken away from it.");
        edges.same("3543 of 46769 less", false, lab.differs(0));
        lab.crack(0, 1);
        int now = lab.getResponse(0, 1, lab.getResonance(0));
        edges.same("by two cracks", lab.getResonance(0) != 18 || Math.abs(now - 46769) > 4676, lab.differs(0));
    }

    /** Masses and cracks that come behind a sensor, a run and questions answer as those that were there ahead. */
    private static void lateAndEarly(Edges edges) {
        edges.of("Structures", "At most 6 structures are numbered from 0, each a row of 1 to 4 masses, 1 to 99, the");
        for (int early = 0; early <= 4; early++) {
            int ahead = early;
            edges.same("masses ahead of all else: " + early, Answers.of(() -> grown(4)), Answers.of(() -> grown(ahead)));
        }
    }

    private static Shakerhall grown(int ahead) {
        Shakerhall lab = Edges.made(Labs.BARE);
        lab.addMass(0, 11, 800, 9);
        grow(lab, 1, ahead);
        lab.addSensor(0, 0, 110, 7000);
        lab.addSpecification();
        lab.addRun(0, 0, 'm');
        lab.addControl(0, 0, 2);
        Labs.levels(lab, 20000);
        lab.getResonance(0);
        lab.getBand(0, 3);
        grow(lab, Math.max(1, ahead), 4);
        lab.turnLoop(0);
        return lab;
    }

    private static void grow(Shakerhall lab, int from, int to) {
        for (int mass = from; mass < to; mass++) {
            lab.addMass(0, 11 - mass, 800 - 100 * mass, 9 - mass);
            lab.crack(0, mass - 1);
        }
    }

    private static void crackByShock(Edges edges) {
        edges.of("Fatigue", "if that is then more than the life, a crack comes to its softest spring, cracks counted");
        edges.same("a crack by a shock is like one that was asked for",
                Answers.of(() -> worn(1, lab -> lab.crack(0, 1))), Answers.of(() -> worn(1, lab -> lab.shock(0))));
        Shakerhall calm = worn(1000000000, lab -> { });
        Shakerhall shocked = worn(1000000000, lab -> lab.shock(0));
        edges.yes("it is worn", shocked.getDamage(0) > 0);
        edges.same("within its life there is no crack", 0, shocked.getCracks(0));
        edges.same("nor does it differ", false, shocked.differs(0));
        edges.same("a shock is not felt in a band", felt(calm, 0), felt(shocked, 0));
        edges.same("a run has what it had", 8685, shocked.getBand(0, 4));
        edges.same("no minute of a run", 1, shocked.getMinutes(1));
        edges.same("no event of a run", 1, shocked.countEvents(1));
    }

    private static void type(Shakerhall lab) {
        lab.type(90000);
        lab.type(-90000);
        lab.type(90000);
    }

    /** Two masses, watched, that felt something and have a signature, and to which more comes. */
    private static Shakerhall worn(int life, Consumer<Shakerhall> more) {
        Shakerhall lab = watched();
        lab.addMass(0, 4, 300, 2);
        lab.turnLoop(1);
        lab.takeSignature(0);
        lab.setLife(0, life);
        type(lab);
        more.accept(lab);
        return lab;
    }

    private static void typedForAll(Edges edges) {
        edges.of("Sweeps and shocks", "A shock moves the table to the typed places, at most 24, one a step, and then");
        Shakerhall lab = Edges.made(Labs.NEW);
        for (int structure = 0; structure < 2; structure++) {
            lab.addStructure();
            lab.addMass(structure, 1, 1, 16);
            lab.crack(structure, 0);
        }
        lab.type(20000);
        edges.same("the first structure", 20000, lab.shock(0));
        edges.same("its damage", 8000L, lab.getDamage(0));
        edges.same("no other's", 0L, lab.getDamage(1));
        edges.same("the second structure, by the same places", 20000, lab.shock(1));
        lab.type(30000);
        edges.same("by one place more", 30000, lab.shock(1));
        edges.same("its damage", 8000L + 27000L, lab.getDamage(1));
        edges.same("no other's", 8000L, lab.getDamage(0));
        edges.same("the row that is typed", 2, lab.wipe());
        for (int structure = 0; structure < 2; structure++) {
            int one = structure;
            edges.same("nothing is typed", "throws " + Edges.CANNOT.getName(), Check.outcome(() -> lab.shock(one)));
        }
        edges.of("Fatigue", "Each structure has a life, 1 to 1000000000, 1000000000 at first.");
        edges.same("a life of its own", 1000000000, lab.setLife(0, 8000));
        edges.same("a life of its own", 1000000000, lab.setLife(1, 42999));
        lab.type(20000);
        lab.shock(0);
        lab.shock(1);
        edges.same("16000 of 8000", 2, lab.getCracks(0));
        edges.same("43000 of 42999", 2, lab.getCracks(1));
        lab.setLife(1, 8000);
        lab.shock(0);
        lab.shock(1);
        edges.same("8000 of 8000, begun anew", 8000L, lab.getDamage(0));
        edges.same("8000 of 8000, begun anew", 8000L, lab.getDamage(1));
    }

    /** What happens to one structure leaves another one, its sensors and its runs as they were. */
    private static void twoStructures(Edges edges) {
        edges.of("Specifications", "At most 6 runs are numbered from 0, each with a structure, a specification, and");
        Shakerhall lab = watched();
        lab.addStructure();
        lab.addMass(1, 10, 500, 5);
        lab.addSensor(1, 0, 100, 1000000);
        lab.addRun(1, 0, 'n');
        lab.addControl(2, 1, 1);
        lab.takeSignature(1);
        lab.setLevel(0, 4, 99999);
        lab.addMass(0, 4, 300, 2);
        lab.crack(0, 0);
        lab.turnLoop(0);
        lab.turnLoop(1);
        lab.takeSignature(0);
        lab.setLoose(0, true);
        edges.same("a run on the first one", 0, lab.getBand(0, 4));
        edges.same("a run on the second one", 11708, lab.getBand(2, 4));
        edges.same("its sensor", 11708, lab.read(1, 16));
        edges.same("its spring", 500, lab.getSpring(1, 0));
        edges.same("its cracks", 0, lab.getCracks(1));
        edges.same("its signature", false, lab.differs(1));
        edges.same("what it felt", eight(0), felt(lab, 1));
        lab.crack(1, 0);
        edges.same("its own crack", 15512, lab.getBand(2, 4));
        edges.same("and resonance", true, lab.differs(1));
        edges.same("the first one does not differ", false, lab.differs(0));
    }

    private static void questions(Edges edges) {
        edges.of("Not promised", "Nothing is promised beyond the answers and state changes described above");
        edges.same("questions leave all as it was", Answers.of(() -> Edges.made(Labs.ALL)),
                Answers.of(() -> asked(Edges.made(Labs.ALL))));
        edges.same("a turn behind questions", turned(Edges.made(Labs.ALL)), turned(asked(Edges.made(Labs.ALL))));
    }

    private static String turned(Shakerhall lab) {
        StringBuilder all = new StringBuilder();
        for (int run = 0; run < 6; run++) {
            int one = run;
            all.append(Check.outcome(() -> lab.turnLoop(one))).append(' ').append(lab.meanDrive(run)).append(' ');
        }
        return all.append(lab.shock(0)).append(' ').append(lab.checksum()).toString();
    }

    private static Shakerhall asked(Shakerhall lab) {
        for (int i = 0; i < 6; i++) {
            lab.getResponse(i, 3, 4 + i);
            lab.getResonance(i);
            lab.sweep(i, 64, 40, 9 + i);
            lab.getSpectrum(4 + i);
            lab.getBand(i, i);
            lab.getDue(i, i);
            lab.isInBand(i, i);
            lab.countOver(i);
            lab.bandShare(i);
            lab.read(i, PERIODS[i]);
        }
        lab.differs(1);
        lab.countCycles();
        lab.damageOfRow();
        lab.checksum();
        lab.isSound();
        return lab;
    }

    private static void whatStays(Edges edges) {
        edges.of("Terms", "what was measured is never replaced");
        Shakerhall lab = worn(1000000000, l -> l.shock(0));
        long damage = lab.getDamage(0);
        String felt = felt(lab, 0);
        lab.addMass(0, 9, 900, 9);
        lab.crack(0, 1);
        lab.setLife(0, 1);
        lab.wipe();
        lab.turnLoop(0);
        lab.takeSignature(0);
        edges.yes("it is worn", damage > 1);
        edges.same("no call but a shock changes the damage", damage, lab.getDamage(0));
        edges.yes("the run turned", lab.getMinutes(0) == 1);
        Shakerhall calm = worn(1000000000, l -> l.shock(0));
        calm.addMass(0, 9, 900, 9);
        calm.crack(0, 1);
        calm.setLife(0, 1);
        calm.takeSignature(0);
        calm.wipe();
        calm.type(5);
        calm.setLoose(0, true);
        calm.setLevel(0, 0, 99999);
        edges.same("no call but a turn changes what was felt", felt, felt(calm, 0));
    }

    /** The groups of answers that differ behind a call are some of those that are told, and at least one. */
    private static void only(Edges edges, String what, Consumer<Shakerhall> call, String... groups) {
        List<String> before = Answers.of(() -> Edges.made(Labs.ALL));
        List<String> behind = Answers.of(() -> {
            Shakerhall lab = Edges.made(Labs.ALL);
            call.accept(lab);
            return lab;
        });
        int changed = 0;
        for (int i = 0; i < before.size(); i++) {
            if (!before.get(i).equals(behind.get(i))) {
                changed++;
                String group = behind.get(i).replaceAll("^(laboratory|sensors|specifications|\\w+ \\d).*", "$1");
                edges.yes(what + " changes nothing of " + group, List.of(groups).contains(group));
            }
        }
        edges.yes(what + " changes something", changed > 0);
    }

    private static void onlyWhatIsAsked(Edges edges) {
        edges.of("Not promised", "Nothing is promised beyond the answers and state changes described above");
        only(edges, "a crack of 0", lab -> lab.crack(0, 0),
                "laboratory", "structure 0", "sensors", "run 0", "run 1", "run 2");
        only(edges, "a crack of 4", lab -> lab.crack(4, 0), "laboratory", "structure 4");
        only(edges, "a loose sensor", lab -> lab.setLoose(0, true), "sensors", "run 0");
        only(edges, "a loose sensor of a run that is broken off", lab -> lab.setLoose(7, true), "sensors", "run 4");
        only(edges, "a level", lab -> lab.setLevel(0, 5, 300), "specifications", "run 0", "run 4");
        only(edges, "a tolerance", lab -> lab.setTolerance(3, 5, 50), "specifications", "run 3", "run 5");
        only(edges, "a turn", lab -> lab.turnLoop(1), "laboratory", "structure 0", "run 0", "run 1", "run 2");
        only(edges, "a turn on another structure", lab -> lab.turnLoop(5), "laboratory", "structure 3", "run 5");
        only(edges, "a taking up", lab -> lab.takeUp(4), "laboratory", "run 4");
        only(edges, "a breaking off", lab -> {
            lab.setAbort(0, 1);
            lab.turnLoop(0);
        }, "run 0");
        only(edges, "a paper", lab -> lab.sign(3, 2), "run 3");
        only(edges, "a notch", lab -> lab.setNotch(0, 0, 30), "run 0");
        only(edges, "a line", lab -> lab.setAbort(5, 4), "run 5");
        only(edges, "a shock", lab -> lab.shock(2), "laboratory", "structure 2");
        only(edges, "a shock of what runs are on", lab -> lab.shock(0), "laboratory", "structure 0");
        only(edges, "a shock that cracks it", lab -> {
            lab.setLife(3, 1);
            lab.shock(3);
        }, "laboratory", "structure 3", "run 5", "sensors");
        only(edges, "a life", lab -> lab.setLife(0, 5), "structure 0");
        only(edges, "a signature", lab -> lab.takeSignature(4), "structure 4");
        only(edges, "a wiping", Shakerhall::wipe, "laboratory");
    }
}
