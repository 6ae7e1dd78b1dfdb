/** Promises 1 to 7: a new object, structures, masses, cracks, responses and resonance. */
final class StructureTest {
    private static final Check CHECK = new Check("StructureTest");

    public static void main(String[] args) {
        Shakerhall lab = new Shakerhall();
        CHECK.same("addStructure", 0, lab.addStructure());
        CHECK.end();
    }
}
