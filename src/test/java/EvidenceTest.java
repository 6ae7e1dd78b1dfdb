import java.util.NoSuchElementException;

/** Promises 42 to 47: signatures, the share of bands, the mean drive, the checksum, soundness. */
final class EvidenceTest {
    private static final Check CHECK = new Check("EvidenceTest");
    private static final Class<IndexOutOfBoundsException> NONE = IndexOutOfBoundsException.class;
    private static final Class<UnsupportedOperationException> CANNOT = UnsupportedOperationException.class;

    public static void main(String[] args) {
        signatures();
        aTenth();
        wrongSignatures();
        shares();
        checksums();
        sound();
        CHECK.end();
    }

    private static void signatures() {
        Shakerhall lab = Labs.tower();
        int response = lab.getResponse(0, 1, lab.getResonance(0));
        CHECK.same("takeSignature", response, lab.takeSignature(0));
        CHECK.same("as it was", false, lab.differs(0));
        for (int i = 0; i < 5; i++) {
            lab.crack(0, 0);
        }
        CHECK.yes("another resonance", lab.getResonance(0) != 18);
        CHECK.same("it differs", true, lab.differs(0));
        CHECK.same("it differs still", true, lab.differs(0));
        lab.takeSignature(0);
        CHECK.same("in place of the earlier one", false, lab.differs(0));
        lab.addMass(0, 99, 5, 0);
        CHECK.same("another last mass", true, lab.differs(0));
        Shakerhall limp = new Shakerhall();
        limp.addStructure();
        limp.addMass(0, 1, 1, 0);
        limp.crack(0, 0);
        CHECK.same("nothing answers", 0, limp.takeSignature(0));
        CHECK.same("nothing does not differ from nothing", false, limp.differs(0));
    }

    /** Cracks one spring, and holds each answer against what the resonance and the response say. */
    private static void aTenth() {
        int alike = 0;
        int response = 0;
        for (int spring = 40; spring <= 9960; spring += 80) {
            Shakerhall lab = new Shakerhall();
            lab.addStructure();
            lab.addMass(0, 10, spring, 5);
            lab.addMass(0, 4, 300, 2);
            int taken = lab.takeSignature(0);
            int period = lab.getResonance(0);
            lab.crack(0, 0);
            int now = lab.getResponse(0, 1, lab.getResonance(0));
            boolean same = lab.getResonance(0) == period;
            boolean near = Math.abs(now - taken) <= taken / 10;
            CHECK.same("spring " + spring, !(same && near), lab.differs(0));
            alike += same && near ? 1 : 0;
            response += same && !near ? 1 : 0;
        }
        CHECK.yes("some stay alike", alike > 0);
        CHECK.yes("some differ by the response alone", response > 0);
    }

    private static void wrongSignatures() {
        new Twins(CHECK, Shakerhall::addStructure)
                .fails("signature: no structure", NONE, lab -> lab.takeSignature(1))
                .fails("signature: structure below 0", NONE, lab -> lab.takeSignature(-1))
                .fails("signature: no masses", CANNOT, lab -> lab.takeSignature(0))
                .fails("differs: no structure", NONE, lab -> lab.differs(1))
                .fails("differs: structure below 0", NONE, lab -> lab.differs(-1))
                .fails("differs: none was taken", NoSuchElementException.class, lab -> lab.differs(0))
                .areAlike("a wrong signature");
        Shakerhall lab = Labs.tower();
        CHECK.fails("none was taken, with masses", NoSuchElementException.class, () -> lab.differs(0));
    }

    private static void shares() {
        Shakerhall lab = Labs.run('x', 100);
        CHECK.same("none", 0f, lab.bandShare(0));
        for (int band = 0; band < 8; band++) {
            lab.setLevel(0, band, 800);
            CHECK.same("share", (band + 1) / 8f, lab.bandShare(0));
        }
        lab.setAbort(0, 1);
        lab.turnLoop(0);
        CHECK.same("share of one that is broken off", 1f, lab.bandShare(0));
        CHECK.fails("share: no run", NONE, () -> lab.bandShare(1));
        CHECK.fails("share: run below 0", NONE, () -> lab.bandShare(-1));

        Shakerhall driven = Labs.run('x', 100);
        CHECK.same("mean at first", 100.0, driven.meanDrive(0));
        driven.setLevel(0, 0, 408);
        driven.turnLoop(0);
        CHECK.same("51 and seven times 1", 7.25, driven.meanDrive(0));
        driven.setLevel(0, 1, 24);
        driven.turnLoop(0);
        CHECK.same("51, 3, and six times 1", 7.5, driven.meanDrive(0));
        CHECK.fails("mean: no run", NONE, () -> driven.meanDrive(1));
        CHECK.fails("mean: run below 0", NONE, () -> driven.meanDrive(-1));
    }

    private static long sum(long... parts) {
        long sum = 7;
        for (long part : parts) {
            sum = 31 * sum + part;
        }
        return sum;
    }

    private static void checksums() {
        Shakerhall lab = Labs.run('x', 100);
        CHECK.same("one structure and a run", sum(1, 0, 0, 0, 800, 0), lab.checksum());
        lab.addStructure();
        lab.addMass(1, 16, 9000, 0);
        lab.addMass(1, 16, 9000, 0);
        lab.crack(1, 1);
        CHECK.same("two structures", sum(1, 0, 0, 2, 1, 0, 0, 800, 0), lab.checksum());
        lab.addRun(1, 0, 'm');
        lab.raise(1);
        lab.turnLoop(1);
        lab.turnLoop(1);
        CHECK.same("two runs", sum(1, 0, 0, 2, 1, 0, 0, 800, 0, 1, 800, 2), lab.checksum());
        lab.turnLoop(0);
        CHECK.same("drives", sum(1, 0, 0, 2, 1, 0, 0, 8, 1, 1, 800, 2), lab.checksum());
        lab.type(90000);
        lab.shock(1);
        CHECK.yes("there is damage", lab.getDamage(1) > 0);
        CHECK.same("damage", sum(1, 0, 0, 2, 1, lab.getDamage(1), 0, 8, 1, 1, 800, 2), lab.checksum());
    }

    private static void sound() {
        Shakerhall lab = Labs.run('x', 100);
        CHECK.yes("sound", lab.isSound());
        for (int i = 0; i < 9; i++) {
            lab.crack(0, 0);
        }
        lab.sign(0, 0);
        lab.setNotch(0, 0, 90);
        for (int band = 0; band < 8; band++) {
            lab.setLevel(0, band, 99999);
        }
        for (int i = 0; i < 5; i++) {
            lab.turnLoop(0);
            CHECK.yes("sound with great drives", lab.isSound());
        }
        for (int band = 0; band < 8; band++) {
            lab.setLevel(0, band, 0);
        }
        lab.turnLoop(0);
        CHECK.same("mean drive of 1", 1.0, lab.meanDrive(0));
        CHECK.yes("sound with the least drives", lab.isSound());
        lab.setLoose(0, true);
        for (int i = 0; i < 3; i++) {
            lab.raise(0);
        }
        CHECK.yes("sound at the top", lab.isSound());
    }
}
