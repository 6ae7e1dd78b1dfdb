import java.util.function.Consumer;

/** The edges of promises 28 to 31: what is felt, overtested bands, and events. */
final class FeltEdges {
    private static final Consumer<Shakerhall> FIFTY_NINE = lab -> events(lab, 59);
    private static final Consumer<Shakerhall> SIXTY = lab -> events(lab, 60);

    private FeltEdges() {
    }

    static void run(Edges edges) {
        felt(edges);
        theMost(edges);
        over(edges);
        events(edges);
        sixtyEvents(edges);
        lastCall(edges);
        wrongEvents(edges);
    }

    /** Papers that are used up at once: each is one event. */
    private static void events(Shakerhall lab, int count) {
        Labs.ONE_RUN.accept(lab);
        for (int i = 0; i < count; i++) {
            lab.sign(0, 0);
            lab.setNotch(0, 0, i);
        }
    }

    private static void felt(Edges edges) {
        edges.of("Specifications", "with the new drives, the structure feels in each band the response of its last");
        Shakerhall lab = StepEdges.loose(StepEdges.FOLLOWER);
        lab.addStructure();
        lab.addSpecification();
        lab.addSensor(0, 0, 100, 100);
        lab.addRun(0, 0, 'x');
        lab.addControl(0, 0, 1);
        int[] dues = {0, 1, 33, 100, 105, 999, 1000, 12499};
        int[] due = {16, 16, 528, 1600, 1600, 15984, 16000, 16000};
        for (int band = 0; band < 8; band++) {
            edges.same("nothing at first", 0, lab.getFelt(0, band));
            lab.setLevel(0, band, 8 * dues[band]);
        }
        lab.turnLoop(0);
        for (int band = 0; band < 8; band++) {
            edges.same("1600 by the drive for " + dues[band], due[band], lab.getFelt(0, band));
            edges.same("another structure", 0, lab.getFelt(1, band));
        }
        Shakerhall tower = Labs.tower();
        tower.addSpecification();
        Labs.levels(tower, 8 * 33);
        tower.addSensor(0, 0, 100, 100);
        tower.addRun(0, 0, 'x');
        tower.addControl(0, 0, 1);
        tower.turnLoop(0);
        edges.same("16428 by 33, divided by 100, cut", 5421, tower.getFelt(0, 4));
        edges.of(28, "`band`: 0 to 7");
        edges.range(Labs.BARE, 0, 7, (l, n) -> l.getFelt(0, n));
        edges.noStructure(28, (l, n) -> l.getFelt(n, 0));
        edges.of(28, "Throws `IllegalArgumentException` if a number is out of range");
        edges.range(Labs.ALL, 0, 7, (l, n) -> l.getFelt(5, n));
    }

    private static void theMost(Edges edges) {
        edges.of("Terms", "what was measured is never replaced");
        Shakerhall lab = Labs.run('x', 100);
        lab.setTolerance(0, 7, 1);
        int[] levels = {1600, 800, 1608, 1600, 8};
        int[] drives = {200, 100, 201, 201, 1};
        int[] due = {65000, 65000, 65325, 65325, 65325};
        for (int i = 0; i < levels.length; i++) {
            lab.setLevel(0, 7, levels[i]);
            lab.turnLoop(0);
            edges.same("drive", drives[i], lab.getDrive(0, 7));
            edges.same("the most is kept", due[i], lab.getFelt(0, 7));
        }
        edges.of("Specifications", "the most that was felt is kept of each structure and band.");
        edges.same("the band ahead of it felt the first drive, 1", 325, lab.getFelt(0, 6));
        lab.setAbort(0, 1);
        lab.setLevel(0, 6, 800);
        lab.turnLoop(0);
        lab.turnLoop(0);
        lab.takeUp(0);
        edges.same("taking up leaves it", 65325, lab.getFelt(0, 7));
        lab.crack(0, 0);
        edges.same("a crack leaves it", 65325, lab.getFelt(0, 7));
    }

    private static void over(Edges edges) {
        edges.of("Specifications", "A band is overtested if the structure felt more there than what is due in the run");
        Shakerhall lab = Labs.run('x', 100);
        Labs.levels(lab, 800);
        edges.same("nothing was felt", 0, lab.countOver(0));
        edges.same("0 is due, 0 was felt", 0, Labs.run('m').countOver(0));
        lab.turnLoop(0);
        Labs.levels(lab, 99999);
        edges.same("32500 by 99999", 0, lab.countOver(0));
        // the stage is 0: what is due then is an eighth of this, and would be less than what was felt
        int[] levels = {32500, 29546, 29545, 21667, 21666};
        int[] tolerances = {1, 10, 10, 50, 50};
        int[] due = {0, 0, 1, 0, 1};
        for (int i = 0; i < levels.length; i++) {
            for (int band = 0; band < 8; band++) {
                lab.setLevel(0, band, levels[i]);
                lab.setTolerance(0, band, tolerances[i]);
                edges.same(levels[i] + " within " + tolerances[i] + " by 32500", due[i], lab.countOver(0));
                lab.setLevel(0, band, 99999);
            }
        }
        lab.setLevel(0, 0, 59091);
        lab.setTolerance(0, 0, 10);
        edges.same("59091 without a notch", 0, lab.countOver(0));
        lab.sign(0, 0);
        lab.setNotch(0, 0, 50);
        edges.same("29545 by a notch", 1, lab.countOver(0));
        lab.setLevel(0, 0, 59092);
        edges.same("29546 by a notch", 0, lab.countOver(0));
        Labs.levels(lab, 0);
        edges.same("all of them", 8, lab.countOver(0));
        lab.addRun(0, lab.addSpecification(), 'n');
        edges.same("by another run on the structure", 8, lab.countOver(1));
        edges.noRun(29, (l, n) -> l.countOver(n));
    }

    private static void events(Edges edges) {
        edges.of(30, "Returns how many events of a run are kept: turns, notches, stages that went up, breakings off,");
        Shakerhall lab = Edges.made(Labs.ONE_RUN);
        edges.same("none at first", "", Labs.events(lab));
        lab.sign(0, 0);
        lab.setAbort(0, 1000);
        lab.setLoose(0, false);
        Labs.levels(lab, 800);
        Check.outcome(() -> lab.setNotch(0, 1, 5));
        Check.outcome(() -> lab.takeUp(0));
        edges.same("neither a paper nor a refused call is one", 0, lab.countEvents(0));
        lab.turnLoop(0);
        edges.same("a turn", "t", Labs.events(lab));
        lab.setNotch(0, 0, 0);
        edges.same("a notch", "tn", Labs.events(lab));
        lab.raise(0);
        edges.same("a stage", "tnr", Labs.events(lab));
        lab.setAbort(0, 1);
        lab.turnLoop(0);
        edges.same("a breaking off, and no turn", "tnrb", Labs.events(lab));
        lab.takeUp(0);
        edges.same("a taking up", "tnrbu", Labs.events(lab));
        edges.same("how many", 5, lab.countEvents(0));
        lab.addRun(0, 0, 'm');
        edges.same("another run has none", 0, lab.countEvents(1));
        edges.noRun(30, (l, n) -> l.countEvents(n));
    }

    private static void sixtyEvents(Edges edges) {
        edges.of(30, "breakings off, and takings up, the first 60.");
        Shakerhall lab = Edges.made(FIFTY_NINE);
        edges.same("59", 59, lab.countEvents(0));
        lab.turnLoop(0);
        edges.same("60", 60, lab.countEvents(0));
        edges.same("the last one that is kept", 't', lab.getEvent(0, 59));
        lab.setAbort(0, 1);
        lab.setLevel(0, 1, 99999);
        lab.turnLoop(0);
        lab.turnLoop(0);
        edges.same("broken off all the same", 'l', lab.getState(0));
        lab.takeUp(0);
        edges.same("60 still", 60, lab.countEvents(0));
        edges.same("the 60th stays", 't', lab.getEvent(0, 59));
        edges.same("the 59th stays", 'n', lab.getEvent(0, 58));
        edges.same("the first one stays", 'n', lab.getEvent(0, 0));
    }

    private static void lastCall(Edges edges) {
        edges.of("What it is", "An object is used for at most 512 calls after it has been made");
        Shakerhall lab = new Shakerhall();
        Labs.lively(lab);
        lab.addRun(0, 0, 'm');
        for (int i = 0; i < 252; i++) {
            edges.same("one paper", 1, lab.sign(0, 7));
            edges.same("the notch before", i < 1 ? 0 : (i - 1) % 91, lab.setNotch(0, 7, i % 91));
        }
        edges.same("the 509th call", 8, lab.turnLoop(0));
        edges.same("the 510th call", 60, lab.countEvents(0));
        edges.same("the 511th call", 'n', lab.getEvent(0, 59));
        edges.same("the 512th call", 325 * 100, lab.getFelt(0, 7));
    }

    private static void wrongEvents(Edges edges) {
        edges.of(31, "`index`: the index, from 0");
        edges.allowed("the first of 60", SIXTY, lab -> lab.getEvent(0, 0));
        edges.allowed("the last of 60", SIXTY, lab -> lab.getEvent(0, 59));
        edges.allowed("the last of 59", FIFTY_NINE, lab -> lab.getEvent(0, 58));
        edges.of(31, "Throws `NoSuchElementException` if there is none");
        int[] beyond = {-1, 60, Integer.MIN_VALUE, Integer.MAX_VALUE};
        for (int index : beyond) {
            edges.refused(index + " of 60", Edges.MISSING, SIXTY, lab -> lab.getEvent(0, index));
        }
        edges.refused("the 60th of 59", Edges.MISSING, FIFTY_NINE, lab -> lab.getEvent(0, 59));
        edges.refused("the first of none", Edges.MISSING, Labs.ONE_RUN, lab -> lab.getEvent(0, 0));
        edges.refused("one ahead of none", Edges.MISSING, Labs.ONE_RUN, lab -> lab.getEvent(0, -1));
        edges.refused("the 61st of 61", Edges.MISSING, lab -> {
            SIXTY.accept(lab);
            lab.turnLoop(0);
        }, lab -> lab.getEvent(0, 60));
        edges.noRun(31, (lab, n) -> lab.getEvent(n, 0));
    }
}
