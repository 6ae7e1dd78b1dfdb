/** Promises 28 to 31: what a structure felt, overtested bands, events. */
final class FeltTest {
    private static final Check CHECK = new Check("FeltTest");
    private static final Class<IndexOutOfBoundsException> NONE = IndexOutOfBoundsException.class;
    private static final Class<IllegalArgumentException> RANGE = IllegalArgumentException.class;

    public static void main(String[] args) {
        felt();
        lastMass();
        overtested();
        events();
        CHECK.end();
    }

    private static void felt() {
        Shakerhall lab = Labs.run('x', 100);
        lab.addStructure();
        CHECK.same("nothing at first", 0, lab.getFelt(0, 0));
        lab.setLevel(0, 0, 1600);
        lab.setLevel(0, 1, 8);
        lab.turnLoop(0);
        CHECK.same("with the new drive, 200", 65000, lab.getFelt(0, 0));
        CHECK.same("with the new drive, 1", 325, lab.getFelt(0, 1));
        lab.setLevel(0, 0, 800);
        lab.setLevel(0, 1, 16);
        lab.turnLoop(0);
        CHECK.same("the most is kept", 65000, lab.getFelt(0, 0));
        CHECK.same("more is kept", 650, lab.getFelt(0, 1));
        CHECK.same("of that structure alone", 0, lab.getFelt(1, 0));
        CHECK.fails("structure ahead of band", NONE, () -> lab.getFelt(2, 8));
        CHECK.fails("structure below 0", NONE, () -> lab.getFelt(-1, 0));
        CHECK.fails("band 8", RANGE, () -> lab.getFelt(0, 8));
        CHECK.fails("band -1", RANGE, () -> lab.getFelt(0, -1));
    }

    private static void lastMass() {
        Shakerhall lab = Labs.tower();
        lab.addSpecification();
        lab.addRun(0, 0, 'm');
        lab.turnLoop(0);
        lab.addSensor(0, 0, 100, 1000000);
        lab.addControl(0, 0, 1);
        int[] periods = {4, 6, 8, 12, 16, 24, 32, 48};
        for (int band = 0; band < 8; band++) {
            CHECK.same("the last mass", lab.getResponse(0, 1, periods[band]), lab.getFelt(0, band));
            CHECK.same("a sensor on the first mass", lab.getResponse(0, 0, periods[band]), lab.getBand(0, band));
        }
    }

    private static void overtested() {
        Shakerhall lab = Labs.run('x', 100);
        for (int band = 0; band < 8; band++) {
            lab.setLevel(0, band, 800);
        }
        CHECK.same("nothing felt", 0, lab.countOver(0));
        lab.turnLoop(0);
        CHECK.same("32500 in each band", 8, lab.countOver(0));
        lab.setLevel(0, 0, 29546);
        CHECK.same("29546 and 2954", 7, lab.countOver(0));
        lab.setLevel(0, 0, 29545);
        CHECK.same("29545 and 2954", 8, lab.countOver(0));
        lab.setTolerance(0, 0, 11);
        CHECK.same("29545 and 3249", 7, lab.countOver(0));
        lab.setTolerance(0, 0, 10);
        lab.setLevel(0, 7, 59092);
        CHECK.same("seven again", 7, lab.countOver(0));
        lab.sign(0, 7);
        lab.setNotch(0, 7, 50);
        CHECK.same("29546 by the notch", 7, lab.countOver(0));
        lab.setLevel(0, 7, 59091);
        CHECK.same("29545 by the notch", 8, lab.countOver(0));
        lab.addRun(0, 0, 'm');
        CHECK.same("another run has no notch", 7, lab.countOver(1));
        CHECK.fails("no run", NONE, () -> lab.countOver(2));
        CHECK.fails("run below 0", NONE, () -> lab.countOver(-1));
    }

    private static void events() {
        Shakerhall lab = Labs.run('x', 100);
        CHECK.same("none at first", 0, lab.countEvents(0));
        CHECK.fails("no event", java.util.NoSuchElementException.class, () -> lab.getEvent(0, 0));
        lab.sign(0, 0);
        CHECK.same("a paper is none", 0, lab.countEvents(0));
        lab.setNotch(0, 0, 0);
        for (int band = 0; band < 8; band++) {
            lab.setLevel(0, band, 800);
        }
        lab.turnLoop(0);
        lab.raise(0);
        lab.setAbort(0, 1);
        lab.turnLoop(0);
        lab.takeUp(0);
        char[] due = {'n', 't', 'r', 'b', 'u'};
        CHECK.same("five", 5, lab.countEvents(0));
        for (int i = 0; i < 5; i++) {
            CHECK.same("event " + i, due[i], lab.getEvent(0, i));
        }
        lab.setAbort(0, 1000000);
        for (int i = 6; i <= 62; i++) {
            lab.turnLoop(0);
            CHECK.same("events", i < 60 ? i : 60, lab.countEvents(0));
        }
        CHECK.same("the last one that is kept", 't', lab.getEvent(0, 59));
        CHECK.same("the first one stays", 'n', lab.getEvent(0, 0));
        CHECK.fails("beyond", java.util.NoSuchElementException.class, () -> lab.getEvent(0, 60));
        CHECK.fails("below 0", java.util.NoSuchElementException.class, () -> lab.getEvent(0, -1));
        CHECK.fails("run ahead of index", NONE, () -> lab.getEvent(1, -1));
        CHECK.fails("run below 0", NONE, () -> lab.getEvent(-1, 0));
        CHECK.fails("count: no run", NONE, () -> lab.countEvents(1));
        CHECK.fails("count: run below 0", NONE, () -> lab.countEvents(-1));
    }
}
