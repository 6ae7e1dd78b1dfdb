import java.util.Arrays;
import java.util.function.Consumer;

/** The edges of promises 32 to 36: sweeps, typed places, shocks and their spectrum. */
final class ShockEdges {
    /** A mass whose speed goes up by 1 in each step in which the table is at 1600 or 1584. */
    private static final int[][] HEAVY = {{99, 1, 0}};
    private static final Consumer<Shakerhall> TWENTY_THREE = lab -> typed(lab, 23);
    private static final Consumer<Shakerhall> TWENTY_FOUR = lab -> typed(lab, 24);
    private static final Consumer<Shakerhall> TYPED_WITHOUT_MASSES = lab -> {
        lab.addStructure();
        lab.type(5000);
    };
    private static final Consumer<Shakerhall> TYPED_ON_MASSES = lab -> {
        Labs.lively(lab);
        lab.type(5000);
    };

    private ShockEdges() {
    }

    static void run(Edges edges) {
        sweeps(edges);
        longSweeps(edges);
        wrongSweeps(edges);
        typing(edges);
        shocks(edges);
        farthest(edges);
        wrongShocks(edges);
        spectra(edges);
        wrongSpectra(edges);
    }

    private static void typed(Shakerhall lab, int count) {
        for (int i = 0; i < count; i++) {
            lab.type(i % 2 == 0 ? 1000 * i : -1000 * i);
        }
    }

    private static void sweeps(Edges edges) {
        edges.of("Sweeps and shocks", "A sweep goes through the periods from one to another one, up or down, so many");
        // the speed is 16 at the 16th step, and the place is 1 then
        int[][] calls = {{4, 18, 1, 4}, {4, 19, 1, 19}, {4, 20, 1, 20}, {64, 50, 1, 64}, {64, 49, 1, 49}, {4, 10, 2, 4},
            {4, 11, 2, 11}, {60, 59, 8, 59}, {60, 59, 7, 60}, {60, 61, 8, 61}, {60, 61, 7, 60}, {60, 60, 99, 60}};
        for (int[] call : calls) {
            edges.same("of a heavy mass: " + Arrays.toString(call), call[3],
                    StepEdges.made(HEAVY).sweep(0, call[0], call[1], call[2]));
        }
        int[] periods = {4, 64, 33};
        for (int from : periods) {
            for (int to : periods) {
                edges.same("at 1600 in each period", from, StepEdges.loose(StepEdges.FOLLOWER).sweep(0, from, to, 99));
                edges.same("one step at each", from, StepEdges.loose(StepEdges.FOLLOWER).sweep(0, from, to, 1));
            }
        }
        edges.same("nothing moves", 40, StepEdges.loose(new int[][] {{9, 1, 0}}).sweep(0, 40, 9, 3));
        // 818, 2369, 3155, 3155 and 2390: other ways to go on from one to the next would answer 56, 55 and 53
        edges.same("down, the first of two like ones", 54,
                StepEdges.made(new int[][] {{79, 41, 1}}).sweep(0, 56, 52, 23));
        // 933, 2220, 2770, 2770 and 2269: other ways would answer 60, 61 and 63
        edges.same("up, the first of two like ones", 62,
                StepEdges.made(new int[][] {{25, 8, 3}}).sweep(0, 60, 64, 28));
        Shakerhall again = StepEdges.made(new int[][] {{25, 8, 3}});
        again.sweep(0, 4, 64, 99);
        edges.same("from rest behind another sweep", 62, again.sweep(0, 60, 64, 28));
    }

    private static void longSweeps(Edges edges) {
        edges.of("Sweeps and shocks", "from one period to the next one all move on as they are, and the tone begins");
        int[][][] structures = {{{10, 500, 5}, {4, 300, 2}}, {{20, 60, 1}}, {{7, 70, 7}, {3, 4567, 0}, {20, 11, 88}}};
        int[][] calls = {{4, 64, 1}, {64, 4, 1}, {4, 64, 99}, {64, 4, 99}, {4, 4, 1}, {64, 64, 99}, {10, 30, 40},
            {30, 10, 41}, {63, 64, 98}, {5, 4, 3}};
        for (int[][] masses : structures) {
            Model model = StepEdges.model(masses);
            Shakerhall lab = StepEdges.made(masses);
            for (int[] call : calls) {
                edges.same(masses.length + " masses: " + Arrays.toString(call),
                        model.sweep(0, call[0], call[1], call[2]), lab.sweep(0, call[0], call[1], call[2]));
            }
        }
    }

    private static void wrongSweeps(Edges edges) {
        edges.of(32, "`from`: 4 to 64");
        edges.range(Labs.LIVELY, 4, 64, (lab, n) -> lab.sweep(0, n, 30, 1));
        edges.of(32, "`to`: 4 to 64");
        edges.range(Labs.LIVELY, 4, 64, (lab, n) -> lab.sweep(0, 30, n, 1));
        edges.of(32, "`steps`: 1 to 99, at each period");
        edges.range(Labs.LIVELY, 1, 99, (lab, n) -> lab.sweep(0, 4, 64, n));
        edges.noStructure(32, (lab, n) -> lab.sweep(n, 4, 64, 1));
        edges.of(32, "Throws `IllegalArgumentException` if a number is out of range");
        edges.refused("all of them", Edges.RANGE, Labs.LIVELY, lab -> lab.sweep(0, 3, 65, 0));
        edges.range(Labs.ALL, 4, 64, (lab, n) -> lab.sweep(5, n, n, 99));
        edges.of(32, "Throws `UnsupportedOperationException` if the structure has no masses");
        edges.refused("no mass", Edges.CANNOT, Labs.BARE, lab -> lab.sweep(0, 4, 64, 1));
        edges.refused("one period", Edges.CANNOT, Labs.BARE, lab -> lab.sweep(0, 64, 64, 99));
        edges.allowed("one mass", Labs.LIVELY, lab -> lab.sweep(0, 64, 4, 99));
    }

    private static void typing(Edges edges) {
        edges.of(33, "`place`: -99999 to 99999");
        edges.range(Labs.NEW, -99999, 99999, (lab, n) -> lab.type(n));
        edges.range(TWENTY_THREE, -99999, 99999, (lab, n) -> lab.type(n));
        edges.of(33, "Throws `IllegalArgumentException` if a number is out of range");
        edges.refused("on an empty row", Edges.RANGE, Labs.NEW, lab -> lab.type(100000));
        edges.refused("on one with room for one more", Edges.RANGE, TWENTY_THREE, lab -> lab.type(-100000));
        edges.of(33, "Throws `IllegalStateException` if there are 24");
        Shakerhall lab = new Shakerhall();
        edges.same("none to wipe", 0, lab.wipe());
        for (int i = 1; i <= 24; i++) {
            edges.same("how many", i, lab.type(i));
        }
        edges.allowed("a 24th one", TWENTY_THREE, l -> l.type(0));
        edges.refused("a 25th one", Edges.FULL, TWENTY_FOUR, l -> l.type(0));
        edges.refused("a 25th one among all", Edges.FULL, Labs.ALL, l -> l.type(99999));
        edges.same("all to wipe", 24, lab.wipe());
        edges.same("none to wipe again", 0, lab.wipe());
        edges.same("the first one again", 1, lab.type(-99999));
    }

    private static int heavyShock(int count, int place) {
        int[] places = new int[count];
        Arrays.fill(places, place);
        return StepEdges.shock(StepEdges.made(HEAVY), places);
    }

    private static void shocks(Edges edges) {
        edges.of("Sweeps and shocks", "A shock moves the table to the typed places, at most 24, one a step, and then");
        // speed 16 from the 16th step on: one place more in each step from there to the end
        edges.same("15 steps", 0, heavyShock(15, 1584));
        edges.same("16 steps and 64", 65, heavyShock(16, 1584));
        edges.same("23 steps and 64", 72, heavyShock(23, -1584));
        edges.same("24 steps and 64", 73, heavyShock(24, 1584));
        Shakerhall lab = StepEdges.loose(StepEdges.FOLLOWER);
        for (int i = 1; i <= 24; i++) {
            lab.type(100 * i);
            edges.same("each of " + i, 100 * i, lab.shock(0));
        }
        edges.same("which stay typed", 24, lab.wipe());
        lab.type(7);
        edges.same("at rest at 0 ahead of it", 7, lab.shock(0));
        lab.wipe();
        lab.type(0);
        edges.same("nothing moves", 0, lab.shock(0));
        int[][] two = {{10, 500, 5}, {4, 300, 2}};
        Shakerhall tower = StepEdges.made(two);
        Model model = StepEdges.model(two);
        for (int i = 0; i < 24; i++) {
            tower.type(i * 4321 * (1 - i % 3));
            model.type(i * 4321 * (1 - i % 3));
            edges.same("the last of two masses", model.shock(0), tower.shock(0));
        }
    }

    private static void farthest(Edges edges) {
        edges.of(35, "Returns how far its last mass was away from 0 at most, without sign.");
        int[] far = {1, 30000};
        for (int place : far) {
            Shakerhall lab = StepEdges.loose(StepEdges.FOLLOWER);
            edges.same("above 0", place, StepEdges.shock(lab, 0, place));
            edges.same("below 0", place, StepEdges.shock(lab, 0, -place));
            edges.same("above 0 first", place, StepEdges.shock(lab, place, 1 - place));
            edges.same("below 0 first", place, StepEdges.shock(lab, -place, place - 1));
            edges.same("below 0 last", place, StepEdges.shock(lab, place - 1, -place));
        }
        Shakerhall two = StepEdges.loose(new int[][] {{1, 1, 16}, {99, 1, 0}});
        edges.same("the last mass, not the first one", 0, StepEdges.shock(two, 1000));
    }

    private static void wrongShocks(Edges edges) {
        edges.noStructure(35, (lab, n) -> lab.shock(n));
        edges.of(35, "Throws `UnsupportedOperationException` if the structure has no masses, or nothing is typed");
        edges.refused("both", Edges.CANNOT, Labs.BARE, lab -> lab.shock(0));
        edges.refused("no masses", Edges.CANNOT, TYPED_WITHOUT_MASSES, lab -> lab.shock(0));
        edges.refused("nothing typed", Edges.CANNOT, Labs.LIVELY, lab -> lab.shock(0));
        edges.refused("wiped", Edges.CANNOT, lab -> {
            Labs.ALL.accept(lab);
            lab.wipe();
        }, lab -> lab.shock(0));
        edges.allowed("one mass and one place", TYPED_ON_MASSES, lab -> lab.shock(0));
    }

    private static int spectrum(int period, int... places) {
        Shakerhall lab = new Shakerhall();
        for (int place : places) {
            lab.type(place);
        }
        return lab.getSpectrum(period);
    }

    private static void spectra(Edges edges) {
        edges.of("Sweeps and shocks", "Its spectrum for a period is what one mass of 16, with the spring 159744");
        edges.same("nothing moves", 0, spectrum(4, 0));
        edges.same("places 2, 0, -2, 0 by 1, 0, 0, 0", 2, spectrum(4, 1));
        // a spring of 39: 39 times 32, divided by 256, is a speed of 4, which moves nothing
        edges.same("away from the table", 32, spectrum(64, 32));
        edges.same("away from it on the other side", 32, spectrum(64, -32));
        edges.same("away from it as it comes back", 64, spectrum(64, 32, -32, 64));
        edges.same("92995 with 63 quiet steps", 93081, spectrum(14, -81184, -72670, -65571));
        edges.same("83108 with 65 quiet steps", 82890, spectrum(10, 85950, 47034));
        Model model = new Model();
        Shakerhall lab = new Shakerhall();
        for (int i = 0; i < 24; i++) {
            model.type(i * 4321 * (1 - i % 3));
            lab.type(i * 4321 * (1 - i % 3));
            for (int period = 4 + i % 4; period <= 64; period += 4) {
                edges.same((i + 1) + " typed, period " + period, model.getSpectrum(period), lab.getSpectrum(period));
            }
        }
        edges.same("which stay typed", 24, lab.wipe());
        edges.same("at 99999 and -99999", modelSpectrum(8, 99999, -99999), spectrum(8, 99999, -99999));
    }

    private static int modelSpectrum(int period, int... places) {
        Model model = new Model();
        for (int place : places) {
            model.type(place);
        }
        return model.getSpectrum(period);
    }

    private static void wrongSpectra(Edges edges) {
        edges.of(36, "`period`: 4 to 64");
        edges.range(TYPED_ON_MASSES, 4, 64, (lab, n) -> lab.getSpectrum(n));
        edges.of(36, "Throws `IllegalArgumentException` if a number is out of range");
        edges.range(TWENTY_FOUR, 4, 64, (lab, n) -> lab.getSpectrum(n));
        edges.refused("period 0, by which nothing can be divided", Edges.RANGE, TWENTY_FOUR, lab -> lab.getSpectrum(0));
        edges.refused("period 65536, whose square is 0", Edges.RANGE, TWENTY_FOUR, lab -> lab.getSpectrum(65536));
        edges.of(36, "Throws `UnsupportedOperationException` if nothing is typed");
        edges.refused("never", Edges.CANNOT, Labs.NEW, lab -> lab.getSpectrum(4));
        edges.refused("wiped", Edges.CANNOT, lab -> {
            TWENTY_FOUR.accept(lab);
            lab.wipe();
        }, lab -> lab.getSpectrum(64));
        edges.allowed("without structures", lab -> lab.type(1), lab -> lab.getSpectrum(64));
    }
}
