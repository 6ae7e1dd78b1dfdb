import java.util.function.Consumer;

/** The edges of promises 24 and 25: papers and notches. */
final class NotchEdges {
    private static final Consumer<Shakerhall> EIGHT_PAPERS = lab -> papers(lab, 8);
    private static final Consumer<Shakerhall> NINE_PAPERS = lab -> papers(lab, 9);
    private static final Consumer<Shakerhall> A_PAPER_EACH = lab -> {
        Labs.ONE_RUN.accept(lab);
        for (int band = 0; band < 8; band++) {
            lab.sign(0, band);
        }
    };
    private static final Consumer<Shakerhall> USED_UP = lab -> {
        papers(lab, 1);
        lab.setNotch(0, 7, 12);
    };

    private NotchEdges() {
    }

    static void run(Edges edges) {
        papers(edges);
        wrongPapers(edges);
        notches(edges);
        wrongNotches(edges);
        otherRunsAndBands(edges);
    }

    private static void papers(Shakerhall lab, int count) {
        Labs.ONE_RUN.accept(lab);
        lab.setLevel(0, 7, 80000);
        for (int i = 0; i < count; i++) {
            lab.sign(0, 7);
        }
    }

    private static void papers(Edges edges) {
        edges.of(24, "Throws `IllegalStateException` if there are 9");
        Shakerhall lab = Edges.made(Labs.ONE_RUN);
        for (int i = 1; i <= 9; i++) {
            edges.same("how many", i, lab.sign(0, 0));
        }
        edges.allowed("a ninth one", EIGHT_PAPERS, l -> l.sign(0, 7));
        edges.refused("a tenth one", Edges.FULL, NINE_PAPERS, l -> l.sign(0, 7));
        edges.allowed("a first one of another band", NINE_PAPERS, l -> l.sign(0, 6));
        edges.refused("a tenth one among all", Edges.FULL, Labs.ALL, l -> l.sign(0, 0));
        lab.setNotch(0, 0, 0);
        edges.same("a ninth one behind one that is used up", 9, lab.sign(0, 0));
        edges.same("a tenth one", "throws " + Edges.FULL.getName(), Check.outcome(() -> lab.sign(0, 0)));
    }

    private static void wrongPapers(Edges edges) {
        edges.of(24, "`band`: 0 to 7");
        edges.range(Labs.ONE_RUN, 0, 7, (lab, n) -> lab.sign(0, n));
        edges.noRun(24, (lab, n) -> lab.sign(n, 7));
        edges.of(24, "Throws `IllegalArgumentException` if a number is out of range");
        edges.range(Labs.ALL, 0, 7, (lab, n) -> lab.sign(4, n));
    }

    private static void notches(Edges edges) {
        edges.of("Specifications", "A notch of a band is 0 to 90 hundredths, 0 at first; it needs a paper");
        Shakerhall lab = Edges.made(EIGHT_PAPERS);
        int[] notches = {90, 0, 89, 1, 45, 0, 0, 90};
        int[] due = {1000, 10000, 1100, 9900, 5500, 10000, 10000, 1000};
        int before = 0;
        for (int i = 0; i < 8; i++) {
            edges.same("the notch before", before, lab.setNotch(0, 7, notches[i]));
            edges.same("due by " + notches[i], due[i], lab.getDue(0, 7));
            before = notches[i];
        }
        edges.same("eight papers are used up", "throws " + Edges.CANNOT.getName(),
                Check.outcome(() -> lab.setNotch(0, 7, 5)));
        edges.same("a new paper is the first one", 1, lab.sign(0, 7));
        edges.of(25, "`hundredths`: 0 to 90");
        edges.range(NINE_PAPERS, 0, 90, (l, n) -> l.setNotch(0, 7, n));
        edges.of(25, "`band`: 0 to 7");
        edges.range(A_PAPER_EACH, 0, 7, (l, n) -> l.setNotch(0, n, 5));
    }

    private static void wrongNotches(Edges edges) {
        edges.of("Terms", "a notch needs a paper");
        edges.refused("none was ever signed", Edges.CANNOT, Labs.ONE_RUN, lab -> lab.setNotch(0, 7, 12));
        edges.of(25, "Throws `UnsupportedOperationException` if there is no such paper");
        edges.refused("the least notch", Edges.CANNOT, Labs.ONE_RUN, lab -> lab.setNotch(0, 0, 0));
        edges.refused("the greatest notch", Edges.CANNOT, Labs.ONE_RUN, lab -> lab.setNotch(0, 0, 90));
        edges.refused("used up", Edges.CANNOT, USED_UP, lab -> lab.setNotch(0, 7, 13));
        edges.refused("used up, the same notch again", Edges.CANNOT, USED_UP, lab -> lab.setNotch(0, 7, 12));
        edges.refused("used up, the notch taken back", Edges.CANNOT, USED_UP, lab -> lab.setNotch(0, 7, 0));
        edges.refused("another band's paper", Edges.CANNOT, NINE_PAPERS, lab -> lab.setNotch(0, 6, 12));
        edges.refused("another run's paper", Edges.CANNOT, lab -> {
            NINE_PAPERS.accept(lab);
            lab.addRun(0, 0, 'x');
        }, lab -> lab.setNotch(1, 7, 12));
        edges.noRun(25, (lab, n) -> lab.setNotch(n, 7, 12));
        edges.of(25, "Throws `IllegalArgumentException` if a number is out of range");
        edges.refused("both", Edges.RANGE, NINE_PAPERS, lab -> lab.setNotch(0, 8, 91));
        edges.refused("just above", Edges.RANGE, Labs.ALL, lab -> lab.setNotch(0, 0, 91));
        edges.refused("just below", Edges.RANGE, Labs.ALL, lab -> lab.setNotch(0, 0, -1));
    }

    private static void otherRunsAndBands(Edges edges) {
        edges.of("Specifications", "it needs a paper that is signed for that run and band, and uses it up.");
        Shakerhall lab = Edges.made(Labs.ONE_RUN);
        lab.addRun(0, 0, 'm');
        Labs.levels(lab, 80000);
        for (int band = 0; band < 8; band++) {
            edges.same("its own paper", 1, lab.sign(0, band));
            edges.same("another run's paper", 1, lab.sign(1, band));
            edges.same("its own notch", 0, lab.setNotch(0, band, 10 * band));
            edges.same("due by it", 10000 - 1000 * band, lab.getDue(0, band));
            edges.same("the other run's is not used up", 2, lab.sign(1, band));
            edges.same("nor has that run a notch", 10000, lab.getDue(1, band));
        }
        edges.same("the first notch stays", 10000, lab.getDue(0, 0));
    }
}
