import java.lang.management.ManagementFactory;

/** All calls of one run live in one room, so the dearest calls must use again what is there. */
final class RoomTest {
    private static final Check CHECK = new Check("RoomTest");
    /** Far below 600,000 objects of 16 bytes, and far above what 512 calls need. */
    private static final long MOST_BYTES = 200_000;

    public static void main(String[] args) {
        fill(new Shakerhall());
        long before = bytes();
        Shakerhall lab = new Shakerhall();
        fill(lab);
        for (int i = 0; i < 60; i++) {
            lab.turnLoop(i % 6);
            lab.takeSignature(i % 6);
            lab.differs(i % 6);
            lab.shock(i % 6);
            lab.getSpectrum(4 + i);
            lab.countCycles();
            lab.sweep(i % 6, 4, 64, 99);
        }
        long used = bytes() - before;
        CHECK.yes("bytes that were made: " + used, used < MOST_BYTES);
        CHECK.end();
    }

    private static long bytes() {
        return ((com.sun.management.ThreadMXBean) ManagementFactory.getThreadMXBean())
                .getThreadAllocatedBytes(Thread.currentThread().getId());
    }

    private static void fill(Shakerhall lab) {
        for (int i = 0; i < 6; i++) {
            lab.addStructure();
            for (int m = 0; m < 4; m++) {
                lab.addMass(i, 10 + m, 500 + i, 5);
            }
        }
        lab.addSpecification();
        for (int i = 0; i < 6; i++) {
            lab.addRun(i, 0, 'm');
            lab.addSensor(i, 3, 100, 1000000);
            lab.addControl(i, i, 1);
        }
        for (int i = 0; i < 24; i++) {
            lab.type(i % 2 == 0 ? 9999 + i : -9999 - i);
        }
    }
}
