import java.util.function.Consumer;

/** The edges of promises 20 to 23 and 26 to 27: turns, stages, breakings off, takings up, abort lines. */
final class LoopEdges {
    private static final Consumer<Shakerhall> NINETY_EIGHT = lab -> turns(lab, 98);
    private static final Consumer<Shakerhall> NINETY_NINE = lab -> turns(lab, 99);
    private static final Consumer<Shakerhall> BROKEN = lab -> {
        Labs.ONE_RUN.accept(lab);
        Labs.levels(lab, 800);
        lab.raise(0);
        lab.turnLoop(0);
        lab.setAbort(0, 199);
        lab.turnLoop(0);
    };
    private static final Consumer<Shakerhall> BROKEN_IN_BAND = lab -> {
        Labs.ONE_RUN.accept(lab);
        Labs.levels(lab, 800);
        lab.setAbort(0, 99);
        lab.turnLoop(0);
    };
    /** The bands have 0, and 0 is due. */
    private static final Consumer<Shakerhall> TOP = lab -> {
        Labs.lively(lab);
        lab.addRun(0, 0, 'n');
        for (int i = 0; i < 3; i++) {
            lab.raise(0);
        }
    };
    private static final Consumer<Shakerhall> TOP_OUT_OF_BAND = lab -> {
        TOP.accept(lab);
        lab.setLevel(0, 7, 99999);
    };

    private LoopEdges() {
    }

    static void run(Edges edges) {
        steps(edges);
        greatestDrives(edges);
        leastDrives(edges);
        turns(edges);
        abortLines(edges);
        byTheDrivesAhead(edges);
        states(edges);
        brokenOff(edges);
        stages(edges);
        takingUp(edges);
        minutes(edges);
        wrongLines(edges);
    }

    /** A run that is in band, and lasted for some minutes. */
    private static void turns(Shakerhall lab, int count) {
        Labs.ONE_RUN.accept(lab);
        Labs.levels(lab, 800);
        for (int i = 0; i < count; i++) {
            lab.turnLoop(0);
        }
    }

    private static void steps(Edges edges) {
        edges.of("Specifications", "To turn the loop makes the drive of each band that is not in band the drive times");
        int[] limits = {100, 100, 100, 100, 100, 100, 300, 7, 100, 32500};
        int[] dues = {999, 1000, 1001, 91, 90, 110, 1000, 10, 112, 12499};
        int[] due = {999, 1000, 1000, 100, 90, 100, 333, 142, 112, 38};
        for (int i = 0; i < limits.length; i++) {
            Shakerhall lab = Labs.run('x', limits[i]);
            lab.setLevel(0, 3, 8 * dues[i]);
            lab.turnLoop(0);
            edges.same(limits[i] + " and " + dues[i] + " is due", due[i], lab.getDrive(0, 3));
            edges.same("0 is due in the other bands", 1, lab.getDrive(0, 4));
        }
        edges.of(20, "Returns how many bands are in band then, 0 if it is broken off.");
        for (int count = 0; count <= 8; count++) {
            Shakerhall lab = Labs.run('x', 1000);
            for (int band = 0; band < 8; band++) {
                lab.setLevel(0, band, band < count ? 16000 : 99999);
            }
            edges.same("none ahead of it", 0f, lab.bandShare(0));
            // a drive of 200 has the 2000 that are due; one of 1000 has 10000 of 12499
            edges.same("then", count, lab.turnLoop(0));
        }
    }

    /** One sensor, which has a hundredth of the drive: it went up to 20000, and has 200. */
    private static Shakerhall driven() {
        Shakerhall lab = Labs.run('x', 1);
        Labs.levels(lab, 99999);
        lab.turnLoop(0);
        lab.turnLoop(0);
        Labs.levels(lab, 1600);
        lab.turnLoop(0);
        return lab;
    }

    private static void greatestDrives(Edges edges) {
        edges.of("Specifications", "divided by what the band has, cut, 10 times the drive and 100000 at most, 1 at");
        Shakerhall lab = Labs.run('x', 1);
        Labs.levels(lab, 99999);
        int[] drives = {1000, 10000, 100000, 100000, 100000};
        for (int drive : drives) {
            edges.same("none is in band", 0, lab.turnLoop(0));
            edges.same("drive", drive, lab.getDrive(0, 7));
        }
        edges.same("driven", 20000, driven().getDrive(0, 0));
        int[] dues = {999, 1000, 1001};
        int[] due = {99900, 100000, 100000};
        for (int i = 0; i < 3; i++) {
            Shakerhall one = driven();
            Labs.levels(one, 8 * dues[i]);
            edges.same(dues[i] + " is due", 8, one.turnLoop(0));
            edges.same(dues[i] + " of 200", due[i], one.getDrive(0, 6));
            edges.yes("sound", one.isSound());
        }
    }

    private static void leastDrives(Edges edges) {
        edges.of("Specifications", "10 times the drive and 100000 at most, 1 at least; it stays where the band has 0.");
        int[] limits = {100, 101, 300, 50, 50};
        int[] dues = {1, 1, 2, 1, 0};
        int[] due = {1, 1, 1, 2, 1};
        for (int i = 0; i < limits.length; i++) {
            Shakerhall lab = Labs.run('x', limits[i]);
            Labs.levels(lab, 8 * dues[i]);
            lab.turnLoop(0);
            edges.same(limits[i] + " and " + dues[i] + " is due", due[i], lab.getDrive(0, 0));
        }
        Shakerhall deaf = Labs.run('x', 99);
        edges.same("0 is due", 8, deaf.turnLoop(0));
        edges.same("the least drive", 1, deaf.getDrive(0, 0));
        edges.same("by which it has 99 hundredths, cut", 0, deaf.getBand(0, 0));
        Labs.levels(deaf, 99999);
        edges.same("none is in band", 0, deaf.turnLoop(0));
        edges.same("it stays", 1, deaf.getDrive(0, 0));
        Shakerhall without = Labs.run('m');
        Labs.levels(without, 99999);
        edges.same("none is in band without control sensors", 0, without.turnLoop(0));
        edges.same("it stays there, too", 100, without.getDrive(0, 0));
    }

    private static void turns(Edges edges) {
        edges.of(20, "Throws `IllegalStateException` if it lasted for 99 minutes");
        edges.allowed("the 99th", NINETY_EIGHT, lab -> lab.turnLoop(0));
        edges.refused("the 100th", Edges.FULL, NINETY_NINE, lab -> lab.turnLoop(0));
        edges.refused("the 100th, above the line", Edges.FULL, lab -> {
            NINETY_NINE.accept(lab);
            lab.setAbort(0, 99);
        }, lab -> lab.turnLoop(0));
        Shakerhall again = Edges.made(NINETY_EIGHT);
        again.addControl(0, again.addSensor(0, 0, 100, 1000), 1);
        again.setAbort(0, 999);
        again.turnLoop(0);
        edges.same("broken off in the 99th minute", 'l', again.getState(0));
        edges.same("minutes", 98, again.takeUp(0));
        again.setAbort(0, 1000000);
        edges.same("the 99th behind it", 8, again.turnLoop(0));
        edges.same("the 100th behind it", "throws " + Edges.FULL.getName(), Check.outcome(() -> again.turnLoop(0)));
        edges.noRun(20, (lab, n) -> lab.turnLoop(n));
        edges.of(20, "Throws `UnsupportedOperationException` if it is broken off");
        edges.refused("broken off", Edges.CANNOT, BROKEN, lab -> lab.turnLoop(0));
        edges.refused("broken off, and below its line by now", Edges.CANNOT, lab -> {
            BROKEN.accept(lab);
            lab.setAbort(0, 1000000);
        }, lab -> lab.turnLoop(0));
        edges.allowed("another run of the structure", lab -> {
            BROKEN.accept(lab);
            lab.addRun(0, 0, 'x');
        }, lab -> lab.turnLoop(1));
    }

    /** A run whose first band has a drive of 102, by which a sensor has 1000000 or 1000001. */
    private static Shakerhall atTheLine(int limit) {
        Shakerhall lab = StepEdges.made(StepEdges.WALKING);
        lab.addSpecification();
        lab.setLevel(0, 0, 8 * 1020);
        lab.setTolerance(0, 0, 1);
        lab.addSensor(0, 1, 100, 1000);
        lab.addSensor(0, 1, 100, limit);
        lab.addRun(0, 0, 'n');
        lab.addControl(0, 0, 1);
        lab.turnLoop(0);
        lab.addControl(0, 1, 1);
        return lab;
    }

    private static void abortLines(Edges edges) {
        edges.of("Specifications", "is above the abort line, 1000000 at first, the run is broken off instead");
        edges.same("drive", 102, atTheLine(980393).getDrive(0, 0));
        Shakerhall at = atTheLine(980393);
        edges.same("1000000 by the line at first", 1, at.turnLoop(0));
        edges.same("it goes", 'g', at.getState(0));
        Shakerhall above = atTheLine(980394);
        edges.same("1000001 by the line at first", 0, above.turnLoop(0));
        edges.same("broken off", 'l', above.getState(0));
        for (char way : "mxn".toCharArray()) {
            int[] lines = {1000000, 101, 100, 99, 1};
            for (int line : lines) {
                Shakerhall lab = Labs.run(way, 10, 100, 20);
                lab.setAbort(0, line);
                lab.turnLoop(0);
                edges.same("100 and line " + line, line < 100 ? 'l' : 'g', lab.getState(0));
                edges.same("minutes", line < 100 ? 0 : 1, lab.getMinutes(0));
            }
        }
        Shakerhall silent = Labs.run('x', 100);
        silent.setLoose(0, true);
        silent.setAbort(0, 1);
        edges.same("0 by the least line", 8, silent.turnLoop(0));
        Shakerhall least = Labs.run('x', 1);
        least.setAbort(0, 1);
        least.turnLoop(0);
        edges.same("1 by the least line", 'g', least.getState(0));
        Shakerhall more = Labs.run('x', 2);
        more.setAbort(0, 1);
        more.turnLoop(0);
        edges.same("2 by the least line", 'l', more.getState(0));
    }

    private static void byTheDrivesAhead(Edges edges) {
        edges.of("Specifications", "what some control sensor has in some band, by the drives ahead of the turn, is");
        for (int band = 0; band < 8; band++) {
            Shakerhall lab = Labs.run('x', 100);
            lab.setLevel(0, band, 8000);
            lab.setAbort(0, 999);
            edges.same("100 ahead of it, 1000 behind it", 1, lab.turnLoop(0));
            edges.same("drive", 1000, lab.getDrive(0, band));
            edges.same("1000 ahead of it", 0, lab.turnLoop(0));
            edges.same("broken off by the band " + band, 'l', lab.getState(0));
        }
        for (int i = 0; i < 4; i++) {
            int[] limits = {10, 10, 10, 10};
            limits[i] = 100;
            Shakerhall lab = Labs.run('n', limits);
            lab.setAbort(0, 99);
            lab.turnLoop(0);
            edges.same("broken off by the sensor " + i, 'l', lab.getState(0));
        }
    }

    private static void states(Edges edges) {
        edges.of("Specifications", "it is then 'c' if some control sensor of it is loose, otherwise 'l'; 'g' as long");
        for (int loose = 0; loose < 4; loose++) {
            Shakerhall lab = Labs.run('x', 100, 100, 100, 100);
            lab.setAbort(0, 99);
            lab.setLoose(loose, true);
            edges.same("ahead of it", 'g', lab.getState(0));
            edges.same("broken off", 0, lab.turnLoop(0));
            edges.same("sensor " + loose + " is loose", 'c', lab.getState(0));
        }
        Shakerhall others = Labs.run('x', 100);
        others.setAbort(0, 99);
        others.setLoose(others.addSensor(0, 0, 100, 100), true);
        others.addRun(0, 0, 'x');
        others.addControl(1, 1, 1);
        others.turnLoop(0);
        edges.same("a loose one of another run", 'l', others.getState(0));
        others.setLoose(0, true);
        edges.same("loose from there on", 'l', others.getState(0));
        edges.same("another run goes", 'g', others.getState(1));
        others.setLoose(0, false);
        others.takeUp(0);
        edges.same("taken up", 'g', others.getState(0));
        others.setLoose(0, true);
        edges.same("a loose one alone breaks nothing off", 'g', others.getState(0));
        edges.noRun(21, (lab, n) -> lab.getState(n));
    }

    private static void brokenOff(Edges edges) {
        edges.of("Specifications", "the run is broken off instead, and no drive changes");
        Shakerhall lab = Edges.made(Labs.ONE_RUN);
        Labs.levels(lab, 8000);
        lab.setAbort(0, 99);
        edges.same("its answer", 0, lab.turnLoop(0));
        for (int band = 0; band < 8; band++) {
            edges.same("drive", 100, lab.getDrive(0, band));
            edges.same("nothing is felt", 0, lab.getFelt(0, band));
        }
        edges.same("no minute", 0, lab.getMinutes(0));
        edges.same("one event", "b", Labs.events(lab));
        edges.of(20, "Returns how many bands are in band then, 0 if it is broken off.");
        Shakerhall in = Labs.run('x', 100);
        Labs.levels(in, 800);
        in.setAbort(0, 99);
        edges.same("all are in band", 1f, in.bandShare(0));
        edges.same("0 for all that", 0, in.turnLoop(0));
    }

    private static void stages(Edges edges) {
        edges.of("Terms", "No level is raised before the lower one was in band");
        for (int band = 0; band < 8; band++) {
            int out = band;
            edges.refused("all but the band " + band, Edges.CANNOT, lab -> {
                Labs.ONE_RUN.accept(lab);
                Labs.levels(lab, 800);
                lab.setLevel(0, out, 896);
            }, lab -> lab.raise(0));
        }
        edges.of("Specifications", "The stage goes up by 1 only if all bands are in band.");
        Shakerhall lab = Edges.made(Labs.ONE_RUN);
        Labs.levels(lab, 880);
        for (int stage = 1; stage <= 3; stage++) {
            edges.same("all are in band", 8, lab.turnLoop(0));
            edges.same("stage", stage, lab.raise(0));
            edges.same("due", 880 >> (3 - stage), lab.getDue(0, 0));
            edges.same("drives stay", stage == 1 ? 100 : 110 << (stage - 1), lab.getDrive(0, 0));
        }
        edges.of(22, "Throws `IllegalStateException` if the stage is 3");
        edges.refused("a fourth one", Edges.FULL, TOP, l -> l.raise(0));
        edges.refused("a fourth one among all", Edges.FULL, Labs.ALL, l -> l.raise(5));
        edges.allowed("the third one", l -> {
            Labs.lively(l);
            l.addRun(0, 0, 'm');
            l.raise(0);
            l.raise(0);
        }, l -> l.raise(0));
        edges.of(22, "Throws `UnsupportedOperationException` if it is broken off, or a band is not in band");
        edges.refused("broken off, all in band", Edges.CANNOT, BROKEN_IN_BAND, l -> l.raise(0));
        edges.refused("none in band", Edges.CANNOT, Labs.ONE_RUN, l -> l.raise(0));
        edges.refused("not in band at the stage 3", Edges.CANNOT, TOP_OUT_OF_BAND, l -> l.raise(0));
        edges.noRun(22, (l, n) -> l.raise(n));
    }

    private static void takingUp(Edges edges) {
        edges.of("Specifications", "A run that was broken off can be taken up again, at the stage 0, all drives being");
        Shakerhall lab = Edges.made(BROKEN);
        edges.same("a paper for a run that is broken off", 1, lab.sign(0, 7));
        edges.same("and its notch", 0, lab.setNotch(0, 7, 50));
        edges.same("another paper", 1, lab.sign(0, 7));
        edges.same("due by the notch", 100, lab.getDue(0, 7));
        edges.same("due ahead of it", 200, lab.getDue(0, 0));
        edges.same("drive ahead of it", 200, lab.getDrive(0, 0));
        edges.same("minutes", 1, lab.takeUp(0));
        edges.same("state", 'g', lab.getState(0));
        for (int band = 0; band < 8; band++) {
            edges.same("due at the stage 0", band < 7 ? 100 : 50, lab.getDue(0, band));
            edges.same("drive", 100, lab.getDrive(0, band));
            edges.same("what was felt stays", 65000, lab.getFelt(0, band));
        }
        edges.same("minutes stay", 1, lab.getMinutes(0));
        edges.same("the line stays", 199, lab.setAbort(0, 100));
        edges.same("the paper stays", 2, lab.sign(0, 7));
        edges.same("the notch stays", 50, lab.setNotch(0, 7, 0));
        edges.same("a turn", 8, lab.turnLoop(0));
        edges.same("stage", 1, lab.raise(0));
        edges.of(23, "Throws `UnsupportedOperationException` if it is not broken off");
        edges.refused("a new one", Edges.CANNOT, Labs.ONE_RUN, l -> l.takeUp(0));
        edges.refused("one at the stage 3", Edges.CANNOT, TOP, l -> l.takeUp(0));
        edges.refused("one that lasted", Edges.CANNOT, NINETY_NINE, l -> l.takeUp(0));
        edges.refused("twice", Edges.CANNOT, l -> {
            BROKEN.accept(l);
            l.takeUp(0);
        }, l -> l.takeUp(0));
        edges.noRun(23, (l, n) -> l.takeUp(n));
    }

    private static void minutes(Edges edges) {
        edges.of("Specifications", "Each turn that is not broken off lasts a minute, in which, with the new drives");
        Shakerhall lab = Edges.made(Labs.ONE_RUN);
        for (int i = 0; i <= 99; i++) {
            edges.same("minutes", i, lab.getMinutes(0));
            Check.outcome(() -> lab.turnLoop(0));
        }
        edges.same("99 at most", 99, lab.getMinutes(0));
        edges.noRun(27, (l, n) -> l.getMinutes(n));
    }

    private static void wrongLines(Edges edges) {
        edges.of(26, "`line`: 1 to 1000000");
        edges.range(Labs.ONE_RUN, 1, 1000000, (lab, n) -> lab.setAbort(0, n));
        Shakerhall lab = Edges.made(Labs.ONE_RUN);
        edges.same("at first", 1000000, lab.setAbort(0, 1));
        edges.same("the least", 1, lab.setAbort(0, 1000000));
        edges.same("the greatest", 1000000, lab.setAbort(0, 77));
        edges.noRun(26, (l, n) -> l.setAbort(n, 5));
        edges.of(26, "Throws `IllegalArgumentException` if a number is out of range");
        edges.range(BROKEN, 1, 1000000, (l, n) -> l.setAbort(0, n));
        edges.range(Labs.ALL, 1, 1000000, (l, n) -> l.setAbort(4, n));
    }
}
