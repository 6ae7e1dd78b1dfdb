/** Promises 14 to 27: runs, control sensors, bands, the loop, stages, notches, abort lines. */
final class RunTest {
    private static final Check CHECK = new Check("RunTest");
    private static final Class<IndexOutOfBoundsException> NONE = IndexOutOfBoundsException.class;
    private static final Class<IllegalArgumentException> RANGE = IllegalArgumentException.class;
    private static final Class<IllegalStateException> FULL = IllegalStateException.class;
    private static final Class<UnsupportedOperationException> CANNOT = UnsupportedOperationException.class;

    public static void main(String[] args) {
        runs();
        wrongRuns();
        controls();
        wrongControls();
        ways();
        due();
        inBand();
        wrongBands();
        turning();
        limitsOfDrives();
        wrongTurns();
        stages();
        wrongStages();
        breakingOff();
        takingUp();
        papersAndNotches();
        wrongPapers();
        abortLines();
        CHECK.end();
    }

    private static void runs() {
        Shakerhall lab = new Shakerhall();
        Labs.lively(lab);
        lab.addSpecification();
        lab.addStructure();
        lab.addMass(1, 1, 1, 1);
        CHECK.same("mean", 0, lab.addRun(0, 0, 'm'));
        CHECK.same("greatest", 1, lab.addRun(1, 1, 'x'));
        CHECK.same("least", 2, lab.addRun(0, 1, 'n'));
        for (int i = 3; i < 6; i++) {
            CHECK.same("addRun", i, lab.addRun(1, 0, 'm'));
        }
        CHECK.same("drive at first", 100, lab.getDrive(0, 7));
        CHECK.same("state at first", 'g', lab.getState(0));
        CHECK.same("minutes at first", 0, lab.getMinutes(0));
        CHECK.same("without control sensors", 0, lab.getBand(0, 0));
        lab.setLevel(1, 3, 800);
        CHECK.same("due by its own specification", 100, lab.getDue(1, 3));
        CHECK.same("due by another specification", 0, lab.getDue(0, 3));
    }

    private static void sixRuns(Shakerhall lab) {
        Labs.lively(lab);
        lab.addStructure();
        for (int i = 0; i < 6; i++) {
            lab.addRun(0, 0, 'm');
        }
    }

    private static void wrongRuns() {
        new Twins(CHECK, RunTest::sixRuns)
                .fails("no structure goes first", NONE, lab -> lab.addRun(2, 0, 'q'))
                .fails("structure below 0", NONE, lab -> lab.addRun(-1, 0, 'm'))
                .fails("no specification goes first", NONE, lab -> lab.addRun(1, 1, 'q'))
                .fails("specification below 0", NONE, lab -> lab.addRun(0, -1, 'm'))
                .fails("way ahead of no masses", RANGE, lab -> lab.addRun(1, 0, 'q'))
                .fails("way of a great letter", RANGE, lab -> lab.addRun(0, 0, 'M'))
                .fails("way 0", RANGE, lab -> lab.addRun(0, 0, (char) 0))
                .fails("no masses ahead of full", CANNOT, lab -> lab.addRun(1, 0, 'm'))
                .fails("a seventh", FULL, lab -> lab.addRun(0, 0, 'm'))
                .areAlike("addRun");
    }

    private static void fiveSensors(Shakerhall lab) {
        Labs.lively(lab);
        lab.addStructure();
        lab.addMass(1, 1, 1, 1);
        for (int i = 0; i < 5; i++) {
            lab.addSensor(0, 0, 100, 1000 + i);
        }
        lab.addSensor(1, 0, 100, 1000);
        lab.addRun(0, 0, 'm');
    }

    private static void controls() {
        Shakerhall lab = new Shakerhall();
        fiveSensors(lab);
        lab.addRun(0, 0, 'x');
        CHECK.same("least weight", 1, lab.addControl(0, 4, 1));
        CHECK.same("greatest weight", 2, lab.addControl(0, 0, 9));
        CHECK.same("third", 3, lab.addControl(0, 1, 5));
        CHECK.same("fourth", 4, lab.addControl(0, 2, 5));
        CHECK.same("the same sensor in another run", 1, lab.addControl(1, 4, 5));
        CHECK.same("mean of four", (1004 + 9 * 1000 + 5 * 1001 + 5 * 1002) / 20, lab.getBand(0, 2));
    }

    private static void wrongControls() {
        new Twins(CHECK, lab -> {
            fiveSensors(lab);
            lab.addControl(0, 0, 1);
        })
                .fails("no run goes first", NONE, lab -> lab.addControl(1, 0, 0))
                .fails("run below 0", NONE, lab -> lab.addControl(-1, 1, 1))
                .fails("no sensor goes first", NONE, lab -> lab.addControl(0, 6, 0))
                .fails("sensor below 0", NONE, lab -> lab.addControl(0, -1, 1))
                .fails("weight 0 ahead of another structure", RANGE, lab -> lab.addControl(0, 5, 0))
                .fails("weight 10", RANGE, lab -> lab.addControl(0, 1, 10))
                .fails("another structure", CANNOT, lab -> lab.addControl(0, 5, 1))
                .fails("twice", CANNOT, lab -> lab.addControl(0, 0, 1))
                .areAlike("addControl");
        new Twins(CHECK, lab -> {
            fiveSensors(lab);
            for (int i = 0; i < 4; i++) {
                lab.addControl(0, i, 1);
            }
        })
                .fails("twice ahead of full", CANNOT, lab -> lab.addControl(0, 3, 1))
                .fails("another structure ahead of full", CANNOT, lab -> lab.addControl(0, 5, 1))
                .fails("a fifth", FULL, lab -> lab.addControl(0, 4, 1))
                .areAlike("addControl on a full run");
    }

    private static void ways() {
        Shakerhall lab = new Shakerhall();
        Labs.lively(lab);
        int[] limits = {201, 100, 303};
        int[] weights = {1, 3, 2};
        for (int i = 0; i < 3; i++) {
            lab.addSensor(0, 0, 100, limits[i]);
            lab.addRun(0, 0, "mxn".charAt(i));
        }
        for (int run = 0; run < 3; run++) {
            for (int i = 0; i < 3; i++) {
                lab.addControl(run, i, weights[i]);
            }
        }
        CHECK.same("mean by weights, cut", 184, lab.getBand(0, 0));
        CHECK.same("greatest", 303, lab.getBand(1, 3));
        CHECK.same("least", 100, lab.getBand(2, 7));
        lab.setLoose(2, true);
        CHECK.same("mean with a loose one", 83, lab.getBand(0, 0));
        CHECK.same("greatest with a loose one", 201, lab.getBand(1, 3));
        CHECK.same("least with a loose one", 0, lab.getBand(2, 7));

        CHECK.same("mean of one", 77, Labs.run('m', 77).getBand(0, 0));
        CHECK.same("greatest of one", 77, Labs.run('x', 77).getBand(0, 0));
        CHECK.same("least of one", 77, Labs.run('n', 77).getBand(0, 0));
        CHECK.same("mean of none", 0, Labs.run('m').getBand(0, 0));
        CHECK.same("greatest of none", 0, Labs.run('x').getBand(0, 0));
        CHECK.same("least of none", 0, Labs.run('n').getBand(0, 0));

        Shakerhall driven = Labs.run('x', 33);
        Labs.levels(driven, 1600);
        driven.turnLoop(0);
        CHECK.same("drive by 200 and 33", 606, driven.getDrive(0, 5));
        CHECK.same("33 times 606, divided by 100, cut", 199, driven.getBand(0, 5));
    }

    private static void due() {
        Shakerhall lab = Labs.run('m');
        int[] due = {99, 199, 399, 799};
        for (int stage = 0; stage < 4; stage++) {
            lab.setLevel(0, 6, 799);
            CHECK.same("due at stage " + stage, due[stage], lab.getDue(0, 6));
            CHECK.same("due of another band", 0, lab.getDue(0, 5));
            lab.setLevel(0, 6, 0);
            if (stage < 3) {
                CHECK.same("raise", stage + 1, lab.raise(0));
            }
        }
        lab.setLevel(0, 6, 799);
        lab.sign(0, 6);
        lab.setNotch(0, 6, 33);
        CHECK.same("799 times 67, divided by 100, cut", 535, lab.getDue(0, 6));
        lab.setLevel(0, 6, 99999);
        CHECK.same("a great one", 66999, lab.getDue(0, 6));

        Shakerhall twice = Labs.run('m');
        twice.setLevel(0, 0, 799);
        twice.sign(0, 0);
        twice.setNotch(0, 0, 33);
        CHECK.same("535 divided by 8, cut", 66, twice.getDue(0, 0));
    }

    private static void inBand() {
        int[] limits = {899, 900, 1000, 1100, 1101};
        boolean[] in = {false, true, true, true, false};
        for (int i = 0; i < 5; i++) {
            Shakerhall lab = Labs.run('x', limits[i]);
            lab.setLevel(0, 4, 8000);
            CHECK.same("1000 and " + limits[i], in[i], lab.isInBand(0, 4));
            CHECK.same("due 0", false, lab.isInBand(0, 3));
        }
        int[] small = {13, 14, 16, 17};
        for (int i = 0; i < 4; i++) {
            Shakerhall lab = Labs.run('x', small[i]);
            lab.setLevel(0, 4, 120);
            CHECK.same("15, a tenth cut, and " + small[i], i == 1 || i == 2, lab.isInBand(0, 4));
            lab.setTolerance(0, 4, 50);
            CHECK.same("15, a half, and " + small[i], true, lab.isInBand(0, 4));
        }
        Shakerhall nothing = Labs.run('m');
        CHECK.same("0 and 0", true, nothing.isInBand(0, 0));
        nothing.setLevel(0, 0, 8);
        CHECK.same("0 and 1", false, nothing.isInBand(0, 0));
    }

    private static void wrongBands() {
        Shakerhall lab = Labs.run('m', 100);
        CHECK.fails("getBand: run ahead of band", NONE, () -> lab.getBand(1, 8));
        CHECK.fails("getBand: run below 0", NONE, () -> lab.getBand(-1, 0));
        CHECK.fails("getBand: band 8", RANGE, () -> lab.getBand(0, 8));
        CHECK.fails("getBand: band -1", RANGE, () -> lab.getBand(0, -1));
        CHECK.fails("getDue: run ahead of band", NONE, () -> lab.getDue(1, 8));
        CHECK.fails("getDue: run below 0", NONE, () -> lab.getDue(-1, 0));
        CHECK.fails("getDue: band 8", RANGE, () -> lab.getDue(0, 8));
        CHECK.fails("getDue: band -1", RANGE, () -> lab.getDue(0, -1));
        CHECK.fails("isInBand: run ahead of band", NONE, () -> lab.isInBand(1, 8));
        CHECK.fails("isInBand: run below 0", NONE, () -> lab.isInBand(-1, 0));
        CHECK.fails("isInBand: band 8", RANGE, () -> lab.isInBand(0, 8));
        CHECK.fails("isInBand: band -1", RANGE, () -> lab.isInBand(0, -1));
        CHECK.fails("getDrive: run ahead of band", NONE, () -> lab.getDrive(1, 8));
        CHECK.fails("getDrive: run below 0", NONE, () -> lab.getDrive(-1, 0));
        CHECK.fails("getDrive: band 8", RANGE, () -> lab.getDrive(0, 8));
        CHECK.fails("getDrive: band -1", RANGE, () -> lab.getDrive(0, -1));
        CHECK.fails("getState: no run", NONE, () -> lab.getState(1));
        CHECK.fails("getState: run below 0", NONE, () -> lab.getState(-1));
        CHECK.fails("getMinutes: no run", NONE, () -> lab.getMinutes(1));
        CHECK.fails("getMinutes: run below 0", NONE, () -> lab.getMinutes(-1));
    }

    private static void turning() {
        Shakerhall lab = Labs.run('x', 100);
        lab.setLevel(0, 0, 800);
        lab.setLevel(0, 1, 880);
        lab.setLevel(0, 2, 888);
        lab.setLevel(0, 3, 400);
        lab.setLevel(0, 4, 4000);
        lab.setLevel(0, 5, 8000);
        lab.setLevel(0, 6, 16000);
        int[] drives = {100, 100, 100, 50, 500, 1000, 1000, 1};
        CHECK.same("in band then", 6, lab.turnLoop(0));
        for (int band = 0; band < 8; band++) {
            CHECK.same("drive of " + band, drives[band], lab.getDrive(0, band));
        }
        CHECK.same("a minute", 1, lab.getMinutes(0));
        CHECK.same("goes on", 'g', lab.getState(0));
        CHECK.same("in band after another one", 7, lab.turnLoop(0));
        CHECK.same("drive of 6", 2000, lab.getDrive(0, 6));
        CHECK.same("two minutes", 2, lab.getMinutes(0));

        Shakerhall without = Labs.run('m');
        Labs.levels(without, 800);
        CHECK.same("none in band", 0, without.turnLoop(0));
        CHECK.same("a drive stays where the band has 0", 100, without.getDrive(0, 0));
        CHECK.same("a minute all the same", 1, without.getMinutes(0));
    }

    private static void limitsOfDrives() {
        Shakerhall lab = Labs.run('x', 1);
        Labs.levels(lab, 99999);
        int[] drives = {1000, 10000, 100000, 100000};
        for (int drive : drives) {
            CHECK.same("none in band", 0, lab.turnLoop(0));
            CHECK.same("drive at most", drive, lab.getDrive(0, 2));
        }
        CHECK.same("mean drive", 100000.0, lab.meanDrive(0));
        Labs.levels(lab, 0);
        lab.turnLoop(0);
        CHECK.same("drive at least", 1, lab.getDrive(0, 2));
        CHECK.same("what 1 hundredth of 1 has", 0, lab.getBand(0, 2));

        Shakerhall great = Labs.run('x', 32500);
        Labs.levels(great, 99999);
        CHECK.same("a small step down", 8, great.turnLoop(0));
        CHECK.same("100 times 12499, divided by 32500, cut", 38, great.getDrive(0, 0));
    }

    private static void wrongTurns() {
        Shakerhall lab = Labs.run('m');
        for (int i = 1; i <= 99; i++) {
            lab.turnLoop(0);
        }
        CHECK.same("minutes", 99, lab.getMinutes(0));
        CHECK.fails("a hundredth minute", FULL, () -> lab.turnLoop(0));
        CHECK.same("minutes still", 99, lab.getMinutes(0));
        CHECK.same("it still goes", 'g', lab.getState(0));
        CHECK.fails("no run", NONE, () -> lab.turnLoop(1));
        CHECK.fails("run below 0", NONE, () -> lab.turnLoop(-1));

        Shakerhall full = Labs.run('x', 100);
        Labs.levels(full, 800);
        for (int i = 1; i <= 99; i++) {
            full.turnLoop(0);
        }
        full.setAbort(0, 1);
        CHECK.fails("its time goes ahead of its line", FULL, () -> full.turnLoop(0));
        CHECK.same("it still goes", 'g', full.getState(0));
    }

    private static void stages() {
        Shakerhall lab = Labs.run('x', 100);
        Labs.levels(lab, 800);
        CHECK.same("first", 1, lab.raise(0));
        CHECK.fails("not in band by now", CANNOT, () -> lab.raise(0));
        CHECK.same("in band again", 8, lab.turnLoop(0));
        CHECK.same("second", 2, lab.raise(0));
        lab.turnLoop(0);
        CHECK.same("third", 3, lab.raise(0));
        CHECK.fails("a band goes ahead of the stage", CANNOT, () -> lab.raise(0));
        lab.turnLoop(0);
        CHECK.same("drive at the top", 800, lab.getDrive(0, 0));
        CHECK.fails("no fourth", FULL, () -> lab.raise(0));
        CHECK.same("due at the top", 800, lab.getDue(0, 0));
    }

    private static void wrongStages() {
        new Twins(CHECK, lab -> {
            Labs.lively(lab);
            lab.addSensor(0, 0, 100, 100);
            lab.addRun(0, 0, 'x');
            lab.addControl(0, 0, 1);
        })
                .fails("no run", NONE, lab -> lab.raise(1))
                .fails("run below 0", NONE, lab -> lab.raise(-1))
                .fails("not in band", CANNOT, lab -> lab.raise(0))
                .areAlike("raise");
        Shakerhall one = Labs.run('x', 100);
        Labs.levels(one, 800);
        one.setLevel(0, 7, 700);
        CHECK.fails("one band of eight", CANNOT, () -> one.raise(0));

        Shakerhall broken = Labs.run('x', 100);
        Labs.levels(broken, 800);
        broken.setAbort(0, 99);
        broken.turnLoop(0);
        CHECK.fails("broken off", CANNOT, () -> broken.raise(0));
        CHECK.fails("takeUp: no run", NONE, () -> broken.takeUp(1));
        CHECK.fails("takeUp: run below 0", NONE, () -> broken.takeUp(-1));
    }

    private static void breakingOff() {
        Shakerhall at = Labs.run('m', 100, 10);
        at.setAbort(0, 100);
        // the drives come to 1, by which 100 and 10 have 1 and 0, and their mean 0
        CHECK.same("at the line it goes on", 8, at.turnLoop(0));
        CHECK.same("state at the line", 'g', at.getState(0));
        CHECK.same("a minute at the line", 1, at.getMinutes(0));

        Shakerhall above = Labs.run('m', 10, 100);
        above.setAbort(0, 99);
        CHECK.same("above the line", 0, above.turnLoop(0));
        CHECK.same("broken off by the line", 'l', above.getState(0));
        CHECK.same("no drive changes", 100, above.getDrive(0, 0));
        CHECK.same("no minute", 0, above.getMinutes(0));
        CHECK.same("nothing felt", 0, above.getFelt(0, 0));
        CHECK.same("its event", "b", Labs.events(above));
        CHECK.fails("no turn", CANNOT, () -> above.turnLoop(0));
        CHECK.same("no event", "b", Labs.events(above));
        above.setLoose(0, true);
        CHECK.same("what it is stays", 'l', above.getState(0));

        Shakerhall loose = Labs.run('m', 100, 10);
        loose.setLoose(1, true);
        loose.setAbort(0, 99);
        loose.turnLoop(0);
        CHECK.same("broken off with a loose sensor", 'c', loose.getState(0));
        loose.setLoose(1, false);
        CHECK.same("what it is stays", 'c', loose.getState(0));

        Shakerhall other = Labs.run('m', 100);
        other.addSensor(0, 0, 100, 5);
        other.setLoose(1, true);
        other.setAbort(0, 99);
        other.turnLoop(0);
        CHECK.same("a loose one that controls nothing", 'l', other.getState(0));

        Shakerhall ahead = Labs.run('x', 100);
        Labs.levels(ahead, 8000);
        ahead.setAbort(0, 100);
        ahead.turnLoop(0);
        CHECK.same("by the drives ahead of the turn", 'g', ahead.getState(0));
        CHECK.same("the drive went up", 1000, ahead.getDrive(0, 0));
        ahead.turnLoop(0);
        CHECK.same("by those drives next time", 'l', ahead.getState(0));

        for (int band = 0; band < 8; band++) {
            Shakerhall one = Labs.run('x', 100);
            one.setLevel(0, band, 8000);
            one.turnLoop(0);
            one.setAbort(0, 999);
            one.turnLoop(0);
            CHECK.same("band " + band + " alone", 'l', one.getState(0));
        }
        for (int sensor = 0; sensor < 3; sensor++) {
            Shakerhall one = Labs.run('n', 100, 100, 100);
            one.setLoose(sensor, true);
            one.setAbort(0, 99);
            one.turnLoop(0);
            CHECK.same("sensor " + sensor + " alone is loose", 'c', one.getState(0));
        }

        Shakerhall deaf = Labs.run('n', 100);
        deaf.setLoose(0, true);
        deaf.setAbort(0, 1);
        CHECK.same("loose alone is below any line", 8, deaf.turnLoop(0));
        CHECK.same("it goes", 'g', deaf.getState(0));
    }

    private static void takingUp() {
        Shakerhall lab = Labs.run('x', 100);
        Labs.levels(lab, 800);
        CHECK.fails("it goes", CANNOT, () -> lab.takeUp(0));
        lab.sign(0, 3);
        lab.setNotch(0, 3, 5);
        lab.sign(0, 3);
        lab.raise(0);
        lab.turnLoop(0);
        lab.raise(0);
        lab.turnLoop(0);
        lab.setAbort(0, 1);
        lab.turnLoop(0);
        CHECK.same("takeUp", 2, lab.takeUp(0));
        CHECK.same("it goes again", 'g', lab.getState(0));
        CHECK.same("at the stage 0", 100, lab.getDue(0, 0));
        for (int band = 0; band < 8; band++) {
            CHECK.same("drive of " + band, 100, lab.getDrive(0, band));
        }
        CHECK.same("minutes stay", 2, lab.getMinutes(0));
        CHECK.same("the notch stays", 95, lab.getDue(0, 3));
        CHECK.same("the paper stays", 2, lab.sign(0, 3));
        CHECK.same("the line stays", 1, lab.setAbort(0, 1000));
        CHECK.same("its events", "nrtrtbu", Labs.events(lab));
        CHECK.fails("it goes by now", CANNOT, () -> lab.takeUp(0));
        CHECK.same("a turn", 8, lab.turnLoop(0));
        CHECK.same("a third minute", 3, lab.getMinutes(0));
    }

    private static void papersAndNotches() {
        Shakerhall lab = Labs.run('x', 100);
        lab.addRun(0, 0, 'x');
        for (int i = 1; i <= 9; i++) {
            CHECK.same("sign", i, lab.sign(0, 7));
        }
        CHECK.fails("a tenth", FULL, () -> lab.sign(0, 7));
        CHECK.same("another band", 1, lab.sign(0, 0));
        CHECK.same("another run", 1, lab.sign(1, 7));
        CHECK.same("notch before", 0, lab.setNotch(0, 7, 90));
        CHECK.same("another paper", 9, lab.sign(0, 7));
        CHECK.same("notch before", 90, lab.setNotch(0, 7, 0));
        CHECK.same("notch before", 0, lab.setNotch(0, 7, 12));
        CHECK.same("seven are left", 8, lab.sign(0, 7));
        CHECK.same("notch of another run", 0, lab.setNotch(1, 7, 34));
        CHECK.fails("used up", CANNOT, () -> lab.setNotch(1, 7, 34));
        CHECK.fails("a paper of another run", CANNOT, () -> lab.setNotch(1, 0, 34));
        CHECK.same("the notch stays", 0, lab.setNotch(0, 0, 1));
        CHECK.same("its events", "nnnn", Labs.events(lab));
    }

    private static void wrongPapers() {
        new Twins(CHECK, lab -> {
            Labs.lively(lab);
            lab.addRun(0, 0, 'x');
            lab.setLevel(0, 7, 99999);
            lab.sign(0, 7);
        })
                .fails("sign: run ahead of band", NONE, lab -> lab.sign(1, 8))
                .fails("sign: run below 0", NONE, lab -> lab.sign(-1, 0))
                .fails("sign: band 8", RANGE, lab -> lab.sign(0, 8))
                .fails("sign: band -1", RANGE, lab -> lab.sign(0, -1))
                .fails("notch: run ahead of band", NONE, lab -> lab.setNotch(1, 8, 91))
                .fails("notch: run below 0", NONE, lab -> lab.setNotch(-1, 7, 1))
                .fails("notch: band 8", RANGE, lab -> lab.setNotch(0, 8, 1))
                .fails("notch: band -1", RANGE, lab -> lab.setNotch(0, -1, 1))
                .fails("notch 91", RANGE, lab -> lab.setNotch(0, 7, 91))
                .fails("notch -1", RANGE, lab -> lab.setNotch(0, 7, -1))
                .fails("range ahead of paper", RANGE, lab -> lab.setNotch(0, 6, 91))
                .fails("no paper", CANNOT, lab -> lab.setNotch(0, 6, 1))
                .areAlike("a wrong paper or notch");
    }

    private static void abortLines() {
        Shakerhall lab = Labs.run('x', 100);
        CHECK.same("line at first", 1000000, lab.setAbort(0, 1));
        CHECK.same("least line", 1, lab.setAbort(0, 1000000));
        CHECK.same("greatest line", 1000000, lab.setAbort(0, 77));
        new Twins(CHECK, twin -> {
            Labs.lively(twin);
            twin.addRun(0, 0, 'x');
        })
                .fails("abort: run ahead of line", NONE, twin -> twin.setAbort(1, 0))
                .fails("abort: run below 0", NONE, twin -> twin.setAbort(-1, 1))
                .fails("line 0", RANGE, twin -> twin.setAbort(0, 0))
                .fails("line 1000001", RANGE, twin -> twin.setAbort(0, 1000001))
                .areAlike("setAbort");
    }
}
