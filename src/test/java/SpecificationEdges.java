import java.util.function.Consumer;

/** The edges of promises 11 to 13, and of what the section Specifications says of levels and tolerances. */
final class SpecificationEdges {
    private static final int[] PERIODS = {4, 6, 8, 12, 16, 24, 32, 48};
    private static final Consumer<Shakerhall> ONE = Shakerhall::addSpecification;
    private static final Consumer<Shakerhall> THREE = lab -> specifications(lab, 3);
    private static final Consumer<Shakerhall> FOUR = lab -> specifications(lab, 4);

    private SpecificationEdges() {
    }

    static void run(Edges edges) {
        numbers(edges);
        bands(edges);
        levels(edges);
        tolerances(edges);
    }

    private static void specifications(Shakerhall lab, int count) {
        for (int i = 0; i < count; i++) {
            lab.addSpecification();
        }
    }

    private static void numbers(Edges edges) {
        edges.of("Specifications", "At most 4 are numbered from 0, with levels 0 at first.");
        Shakerhall lab = new Shakerhall();
        for (int i = 0; i < 4; i++) {
            edges.same("numbers", i, lab.addSpecification());
            for (int band = 0; band < 8; band++) {
                edges.same("level at first", 0, lab.setLevel(i, band, 1 + band));
            }
        }
        edges.same("the first one stays", 8, lab.setLevel(0, 7, 0));
        edges.of(11, "Throws `IllegalStateException` if there were 4");
        edges.allowed("a fourth one", THREE, Shakerhall::addSpecification);
        edges.refused("a fifth one", Edges.FULL, FOUR, Shakerhall::addSpecification);
        edges.refused("a fifth one among all", Edges.FULL, Labs.ALL, Shakerhall::addSpecification);
    }

    private static void bands(Edges edges) {
        edges.of("Specifications", "A specification has 8 bands, numbered from 0, of the periods 4, 6, 8, 12, 16, 24,");
        Shakerhall lab = Labs.tower();
        lab.addSpecification();
        lab.addSensor(0, 1, 100, 1000000);
        lab.addRun(0, 0, 'x');
        lab.addControl(0, 0, 1);
        for (int band = 0; band < 8; band++) {
            edges.same("band " + band, lab.getResponse(0, 1, PERIODS[band]), lab.getBand(0, band));
            edges.same("level at first", 0, lab.setLevel(0, band, 99999));
            edges.same("the greatest level", 99999, lab.setLevel(0, band, 0));
            edges.same("the least level", 0, lab.setLevel(0, band, 7 + band));
            edges.same("tolerance at first", 10, lab.setTolerance(0, band, 1));
            edges.same("the least tolerance", 1, lab.setTolerance(0, band, 50));
            edges.same("the greatest tolerance", 50, lab.setTolerance(0, band, 2 + band));
        }
        for (int band = 0; band < 8; band++) {
            edges.same("each band has its own level", 7 + band, lab.setLevel(0, band, 0));
            edges.same("each band has its own tolerance", 2 + band, lab.setTolerance(0, band, 1));
        }
        lab.addSpecification();
        edges.same("tolerance at first of another one", 10, lab.setTolerance(1, 7, 1));
    }

    private static void levels(Edges edges) {
        edges.of(12, "`band`: 0 to 7");
        edges.range(ONE, 0, 7, (lab, n) -> lab.setLevel(0, n, 5));
        edges.of(12, "`level`: 0 to 99999");
        edges.range(ONE, 0, 99999, (lab, n) -> lab.setLevel(0, 7, n));
        edges.of(12, "Throws `IndexOutOfBoundsException` if there is no such specification");
        edges.row(Labs.NEW, 0, (lab, n) -> lab.setLevel(n, 0, 5));
        edges.row(ONE, 1, (lab, n) -> lab.setLevel(n, 0, 5));
        edges.row(FOUR, 4, (lab, n) -> lab.setLevel(n, 7, 5));
        edges.of(12, "Throws `IllegalArgumentException` if a number is out of range");
        edges.refused("both", Edges.RANGE, ONE, lab -> lab.setLevel(0, 8, 100000));
        edges.range(Labs.ALL, 0, 7, (lab, n) -> lab.setLevel(3, n, 5));
        edges.range(Labs.ALL, 0, 99999, (lab, n) -> lab.setLevel(3, 0, n));
    }

    private static void tolerances(Edges edges) {
        edges.of(13, "`band`: 0 to 7");
        edges.range(ONE, 0, 7, (lab, n) -> lab.setTolerance(0, n, 5));
        edges.of(13, "`hundredths`: 1 to 50");
        edges.range(ONE, 1, 50, (lab, n) -> lab.setTolerance(0, 7, n));
        edges.of(13, "Throws `IndexOutOfBoundsException` if there is no such specification");
        edges.row(Labs.NEW, 0, (lab, n) -> lab.setTolerance(n, 0, 5));
        edges.row(ONE, 1, (lab, n) -> lab.setTolerance(n, 0, 5));
        edges.row(FOUR, 4, (lab, n) -> lab.setTolerance(n, 7, 5));
        edges.of(13, "Throws `IllegalArgumentException` if a number is out of range");
        edges.refused("both", Edges.RANGE, ONE, lab -> lab.setTolerance(0, -1, 0));
        edges.range(Labs.ALL, 0, 7, (lab, n) -> lab.setTolerance(3, n, 5));
        edges.range(Labs.ALL, 1, 50, (lab, n) -> lab.setTolerance(3, 0, n));
    }
}
