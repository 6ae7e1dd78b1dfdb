import java.math.BigInteger;
import java.util.Arrays;

/** The edges of promises 42 to 46: signatures, shares, mean drives, and the checksum. */
final class EvidenceEdges {
    private EvidenceEdges() {
    }

    static void run(Edges edges) {
        signatures(edges);
        tenths(edges);
        wrongSignatures(edges);
        shares(edges);
        means(edges);
        checksums(edges);
        wrapping(edges);
    }

    private static void signatures(Edges edges) {
        edges.of("Evidence", "The signature of a structure is its resonance, and the response of its last mass to");
        Shakerhall tower = Labs.tower();
        edges.same("the response", tower.getResponse(0, 1, 18), tower.takeSignature(0));
        edges.same("the resonance", 18, tower.getResonance(0));
        Shakerhall still = StepEdges.loose(new int[][] {{5, 1, 0}});
        edges.same("a response of 0", 0, still.takeSignature(0));
        edges.same("0 is like 0", false, still.differs(0));
        edges.of("Evidence", "One can be taken, in place of an earlier one, and held against what is so now");
        edges.same("as it was", false, tower.differs(0));
        for (int i = 0; i < 5; i++) {
            tower.crack(0, 0);
        }
        edges.yes("another resonance", tower.getResonance(0) != 18);
        edges.same("it differs", true, tower.differs(0));
        edges.same("it still does", true, tower.differs(0));
        tower.takeSignature(0);
        edges.same("in place of the earlier one", false, tower.differs(0));
        Shakerhall two = StepEdges.made(new int[][] {{10, 500, 5}});
        two.addStructure();
        two.addMass(1, 10, 500, 5);
        two.takeSignature(1);
        edges.same("of another structure", "throws " + Edges.MISSING.getName(), Check.outcome(() -> two.differs(0)));
        two.addMass(1, 50, 10, 0);
        edges.same("another last mass", true, two.differs(1));
    }

    /** What the signature was taken of, and how it is behind some cracks of a spring. */
    private static void tenth(Edges edges, String what, boolean due, int[] answers, int spring, int[]... masses) {
        Shakerhall lab = StepEdges.made(masses);
        int last = masses.length - 1;
        int resonance = lab.getResonance(0);
        edges.same(what + ", taken", answers[0], lab.takeSignature(0));
        edges.same(what + ", as it was", false, lab.differs(0));
        lab.crack(0, spring);
        edges.same(what + ", the resonance stays", resonance, lab.getResonance(0));
        edges.same(what + ", now", answers[1], lab.getResponse(0, last, resonance));
        edges.same(what, due, lab.differs(0));
    }

    private static void tenths(Edges edges) {
        edges.of("Evidence", "or the response is by more than a tenth, cut, of that taken away from it.");
        tenth(edges, "109 of 1097 less", false, new int[] {1097, 988}, 0, new int[][] {{85, 23, 2}});
        tenth(edges, "277 of 2761 less", true, new int[] {2761, 2484}, 0, new int[][] {{5, 10, 4}, {4, 8, 63}});
        tenth(edges, "39 of 396 more", false, new int[] {396, 435}, 0, new int[][] {{6, 29, 30}, {29, 1, 2}});
        tenth(edges, "33 of 324 more", true, new int[] {324, 357}, 0, new int[][] {{56, 1, 4}});
        edges.of("Evidence", "it differs if the resonance is another one");
        Shakerhall lab = StepEdges.made(new int[][] {{20, 60, 1}});
        int found = 0;
        for (int crack = 1; crack <= 9; crack++) {
            int resonance = lab.getResonance(0);
            int taken = lab.takeSignature(0);
            lab.crack(0, 0);
            int now = lab.getResponse(0, 0, lab.getResonance(0));
            if (lab.getResonance(0) != resonance && Math.abs(now - taken) <= taken / 10) {
                found++;
                edges.same("by the resonance alone", true, lab.differs(0));
            }
        }
        edges.yes("some crack moves the resonance alone", found > 0);
    }

    private static void wrongSignatures(Edges edges) {
        edges.noStructure(42, (lab, n) -> lab.takeSignature(n));
        edges.of(42, "Throws `UnsupportedOperationException` if the structure has no masses");
        edges.refused("no mass", Edges.CANNOT, Labs.BARE, lab -> lab.takeSignature(0));
        edges.allowed("one mass", Labs.LIVELY, lab -> lab.takeSignature(0));
        edges.noStructure(43, (lab, n) -> lab.differs(n));
        edges.of(43, "Throws `NoSuchElementException` if none was taken");
        edges.refused("with a mass", Edges.MISSING, Labs.LIVELY, lab -> lab.differs(0));
        edges.refused("without masses", Edges.MISSING, Labs.BARE, lab -> lab.differs(0));
        edges.refused("behind one that was refused", Edges.MISSING, lab -> {
            lab.addStructure();
            Check.outcome(() -> lab.takeSignature(0));
            lab.addMass(0, 1, 1, 1);
        }, lab -> lab.differs(0));
        edges.refused("of the one ahead", Edges.MISSING, Labs.ALL, lab -> lab.differs(0));
        edges.allowed("taken", Labs.TAKEN, lab -> lab.differs(0));
    }

    private static void shares(Edges edges) {
        edges.of(44, "Returns their number divided by 8, both converted to float.");
        Shakerhall lab = Labs.run('x', 100);
        edges.same("none", 0f, lab.bandShare(0));
        float[] due = {0.125f, 0.25f, 0.375f, 0.5f, 0.625f, 0.75f, 0.875f, 1f};
        for (int band = 0; band < 8; band++) {
            lab.setLevel(0, 7 - band, 800);
            edges.same("bands in band: " + (band + 1), due[band], lab.bandShare(0));
        }
        edges.noRun(44, (l, n) -> l.bandShare(n));
    }

    private static void means(Edges edges) {
        edges.of(45, "Returns the sum divided by 8, both converted to double.");
        Shakerhall lab = Labs.run('x', 100);
        edges.same("at first", 100.0, lab.meanDrive(0));
        lab.turnLoop(0);
        edges.same("the least", 1.0, lab.meanDrive(0));
        for (int eighths = 1; eighths <= 7; eighths++) {
            Shakerhall one = Labs.run('x', 100);
            one.setLevel(0, 7, 8 * (1 + eighths));
            one.turnLoop(0);
            edges.same("seven of 1, and one of " + (1 + eighths), 1 + eighths * 0.125, one.meanDrive(0));
        }
        Shakerhall most = Labs.run('x', 1);
        Labs.levels(most, 99999);
        for (int i = 0; i < 4; i++) {
            most.turnLoop(0);
        }
        edges.same("the greatest", 100000.0, most.meanDrive(0));
        edges.noRun(45, (l, n) -> l.meanDrive(n));
    }

    /** The document's sum without a bound, of which a long keeps the low 64 bits. */
    private static long sum(long... parts) {
        BigInteger sum = BigInteger.valueOf(7);
        for (long part : parts) {
            sum = sum.multiply(BigInteger.valueOf(31)).add(BigInteger.valueOf(part));
        }
        return sum.longValue();
    }

    private static void checksums(Edges edges) {
        edges.of(46, "Returns 7 at first, then for each structure 31 times itself plus its masses, by how many there");
        Shakerhall lab = new Shakerhall();
        edges.same("at first", 7L, lab.checksum());
        lab.addStructure();
        edges.same("a structure without masses", 7L * 31 * 31 * 31, lab.checksum());
        lab.addMass(0, 1, 1600, 0);
        lab.addMass(0, 1, 1600, 0);
        lab.addMass(0, 1, 1600, 0);
        edges.same("masses", sum(3, 0, 0), lab.checksum());
        lab.crack(0, 1);
        lab.crack(0, 2);
        edges.same("cracks", sum(3, 2, 0), lab.checksum());
        lab.type(90000);
        lab.shock(0);
        edges.yes("there is damage", lab.getDamage(0) > 0);
        edges.same("damage", sum(3, 2, lab.getDamage(0)), lab.checksum());
        lab.addStructure();
        edges.same("another structure", sum(3, 2, lab.getDamage(0), 0, 0, 0), lab.checksum());
        Shakerhall run = Labs.run('n');
        edges.same("a run", sum(1, 0, 0, 0, 800, 0), run.checksum());
        run.raise(0);
        run.turnLoop(0);
        run.turnLoop(0);
        edges.same("its stage and minutes", sum(1, 0, 0, 1, 800, 2), run.checksum());
        run.addSensor(0, 0, 100, 100);
        run.addControl(0, 0, 1);
        run.setLevel(0, 7, 4 * 50);
        run.turnLoop(0);
        edges.same("its drives", sum(1, 0, 0, 1, 57, 3), run.checksum());
        run.addRun(0, 0, 'm');
        edges.same("another run", sum(1, 0, 0, 1, 57, 3, 0, 800, 0), run.checksum());
        run.type(5);
        run.setLoose(0, true);
        run.setLife(0, 9);
        edges.same("nothing else counts", sum(1, 0, 0, 1, 57, 3, 0, 800, 0), run.checksum());
    }

    /** From the twelfth part on the sum is greater than a long. */
    private static void wrapping(Edges edges) {
        edges.of(46, "then for each run 31 times itself plus its stage, then plus the sum of its drives, then plus");
        Shakerhall lab = new Shakerhall();
        long[] parts = new long[36];
        for (int i = 0; i < 6; i++) {
            lab.addStructure();
            for (int m = 0; m <= i % 4; m++) {
                lab.addMass(i, 1, 1600, 0);
                parts[3 * i]++;
            }
            lab.crack(i, 0);
            parts[3 * i + 1] = 1;
            edges.same("structures: " + (i + 1), sum(Arrays.copyOf(parts, 3 * i + 3)), lab.checksum());
        }
        lab.addSpecification();
        for (int i = 0; i < 6; i++) {
            lab.addRun(i, 0, 'm');
            for (int turn = 0; turn < i; turn++) {
                lab.turnLoop(i);
            }
            for (int stage = 0; stage < i % 4; stage++) {
                lab.raise(i);
            }
            parts[18 + 3 * i] = i % 4;
            parts[19 + 3 * i] = 800;
            parts[20 + 3 * i] = i;
            edges.same("runs: " + (i + 1), sum(Arrays.copyOf(parts, 3 * i + 21)), lab.checksum());
        }
        lab.type(-90000);
        lab.type(90000);
        for (int i = 0; i < 6; i++) {
            lab.shock(i);
            parts[3 * i + 2] = lab.getDamage(i);
        }
        edges.same("all", sum(parts), lab.checksum());
    }
}
