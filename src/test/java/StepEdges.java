import java.util.Arrays;
import java.util.function.Consumer;

/** The edges of promise 6, and of what the section Structures says of steps, tones and resonances. */
final class StepEdges {
    /** A mass that takes over the speed of the table in each step: it is where the table is. */
    static final int[][] FOLLOWER = {{1, 1, 16}};
    /** In the tone of period 4 its second mass walks away from the first one, until it is kept at -1000000. */
    static final int[][] WALKING = {{19, 9045, 14}, {1, 1, 35}};
    private static final int[][][] MANY = {{{10, 500, 5}}, {{10, 500, 5}, {4, 300, 2}}, {{99, 1, 0}}, {{1, 9999, 99}},
        {{1, 9999, 0}, {1, 9999, 99}, {99, 1, 0}, {50, 50, 50}}, {{7, 70, 7}, {3, 4567, 0}, {20, 11, 88}}};

    private StepEdges() {
    }

    static void run(Edges edges) {
        rest(edges);
        forces(edges);
        tableSpeed(edges);
        cuts(edges);
        keptSpeeds(edges);
        keptPlaces(edges);
        tones(edges);
        resonances(edges);
        responses(edges);
    }

    static Shakerhall made(int[][] masses) {
        Shakerhall lab = Edges.made(Labs.BARE);
        for (int[] mass : masses) {
            lab.addMass(0, mass[0], mass[1], mass[2]);
        }
        return lab;
    }

    static Model model(int[][] masses) {
        Model model = new Model();
        model.addStructure();
        for (int[] mass : masses) {
            model.addMass(0, mass[0], mass[1], mass[2]);
        }
        return model;
    }

    /** The first spring lets go: with one crack, a spring of 1 is 0. */
    static Shakerhall loose(int[][] masses) {
        Shakerhall lab = made(masses);
        lab.crack(0, 0);
        return lab;
    }

    static int shock(Shakerhall lab, int... places) {
        lab.wipe();
        for (int place : places) {
            lab.type(place);
        }
        return lab.shock(0);
    }

    private static void rest(Edges edges) {
        edges.of("Structures", "A structure is stepped so: at first all masses rest at 0.");
        Shakerhall lab = Labs.tower();
        int pushed = shock(lab, 40000, -50000);
        edges.same("a tone behind a shock", 16428, lab.getResponse(0, 1, 16));
        edges.same("a tone behind a tone", 16428, lab.getResponse(0, 1, 16));
        edges.same("a shock behind a tone", pushed, lab.shock(0));
        edges.same("a shock behind a shock", pushed, lab.shock(0));
        lab.sweep(0, 4, 64, 99);
        edges.same("a tone behind a sweep", 8685, lab.getResponse(0, 0, 16));
        lab.sweep(0, 64, 4, 99);
        edges.same("a shock behind a sweep", pushed, lab.shock(0));
        int spectrum = lab.getSpectrum(16);
        edges.same("a spectrum behind a spectrum", spectrum, lab.getSpectrum(16));
        edges.same("a sweep behind a spectrum", Labs.tower().sweep(0, 4, 64, 99), lab.sweep(0, 4, 64, 99));
    }

    private static void forces(Edges edges) {
        edges.of("Structures", "by what all had ahead of this step, its force is its spring times the place of the one"
                + " ahead of it less its own");
        for (int[][] masses : MANY) {
            Shakerhall lab = made(masses);
            Model model = model(masses);
            for (int mass = 0; mass < masses.length; mass++) {
                for (int period = 4; period <= 64; period += 3) {
                    edges.same("mass " + mass + " of " + masses.length + " at " + period,
                            model.getResponse(0, mass, period), lab.getResponse(0, mass, period));
                }
            }
        }
        // speeds 39, -39, -39, 39, places 2, 0, -2, 0
        edges.same("a spring alone", 2, shock(made(new int[][] {{16, 9984, 0}}), 1));
    }

    private static void tableSpeed(Edges edges) {
        edges.of("Structures", "the table is where it was moved to, and its speed is 16 times what it was moved by");
        edges.same("by the speed alone", 100, shock(loose(FOLLOWER), 100));
        edges.same("it rests where it stays", 100, shock(loose(FOLLOWER), 100, 100, 100));
        edges.same("down", 50, shock(loose(FOLLOWER), -50));
        edges.same("by what it was moved by, not by where it is", 70, shock(loose(FOLLOWER), 70, 60, -20));
        // 16 times 99999, divided by 16, is a speed of 99999, by which the place is 6249, and less from there on
        edges.same("a table faster than any mass", 6249, shock(loose(new int[][] {{1, 1, 1}}), 99999));
        edges.same("a table faster than any mass, down", 6249, shock(loose(new int[][] {{1, 1, 1}}), -99999));
    }

    private static void cuts(Edges edges) {
        edges.of("Structures", "divided by 16 times the mass, cut toward 0, and each place is more by the new speed");
        for (int sign = -1; sign <= 1; sign += 2) {
            int[] less = new int[24];
            int[] just = new int[16];
            Arrays.fill(less, 1583 * sign);
            Arrays.fill(just, 1584 * sign);
            edges.same("1583 of 1584, cut", 0, shock(made(new int[][] {{99, 1, 0}}), less));
            // the speed is 16 at the 16th step, so the place is one more in it and in each of 64 quiet ones
            edges.same("1584 of 1584", 65, shock(made(new int[][] {{99, 1, 0}}), just));
            // a speed of 100 moves 6 places, the next one of 6 moves none
            edges.same("100 of 16, cut", 6, shock(loose(new int[][] {{1, 1, 1}}), 100 * sign));
            edges.same("15 of 16, cut", 0, shock(loose(new int[][] {{1, 1, 1}}), 15 * sign));
            edges.same("16 of 16", 1, shock(loose(new int[][] {{1, 1, 1}}), 16 * sign));
        }
    }

    private static void keptSpeeds(Edges edges) {
        edges.of("Structures", "Places and speeds are kept within -1000000 to 1000000.");
        for (int sign = -1; sign <= 1; sign += 2) {
            edges.same("a speed of 999984 in " + sign, 62499, shock(loose(FOLLOWER), 62499 * sign));
            edges.same("a speed of 1000000 in " + sign, 62500, shock(loose(FOLLOWER), 62500 * sign));
            edges.same("a speed of 1000016 in " + sign, 62500, shock(loose(FOLLOWER), 62501 * sign));
            edges.same("a speed of 1599984 in " + sign, 62500, shock(loose(FOLLOWER), 99999 * sign));
            int[][] spring = {{1, 256, 0}};
            edges.same("a spring that pulls by 999984 in " + sign, 62499, shock(made(spring), 62499 * sign));
            edges.same("a spring that pulls by 1000000 in " + sign, 62500, shock(made(spring), 62500 * sign));
            edges.same("a spring that pulls by 1000016 in " + sign, 62500, shock(made(spring), 62501 * sign));
        }
        // speeds 999900, -1000000, -1000000, places 62493, -7, -62507, and to and fro from there
        edges.same("in a tone", 62507, made(new int[][] {{1, 9999, 0}}).getResponse(0, 0, 4));
    }

    private static void keptPlaces(Edges edges) {
        edges.of("Structures", "Places and speeds are kept within -1000000 to 1000000.");
        int[][] thrown = {{1, 2, 75}, {10, 6, 0}};
        for (int sign = -1; sign <= 1; sign += 2) {
            int[] places = new int[24];
            for (int i = 0; i < 24; i++) {
                places[i] = i % 3 == 0 ? 99999 * sign : -99999 * sign;
            }
            edges.same("a place in a shock in " + sign, 1000000, shock(made(thrown), places));
        }
        edges.same("a place in a tone", 1000000, made(WALKING).getResponse(0, 1, 4));
        edges.same("the mass ahead of it is less far", 21185, made(WALKING).getResponse(0, 0, 4));
    }

    private static void tones(Edges edges) {
        edges.of("Structures", "is the greatest place without sign over 256 steps from rest");
        // 122 over 255 steps, 126 over 257
        edges.same("256 steps", 124, made(new int[][] {{99, 2, 0}}).getResponse(0, 0, 64));
        // 506 is what 256 steps come to, 499 are 255 and 513 are 257
        edges.same("256 steps of another one", 506, made(new int[][] {{97, 9, 0}}).getResponse(0, 0, 64));
        edges.same("farthest below 0, 120 above", 475, made(new int[][] {{1, 1, 0}}).getResponse(0, 0, 9));
        edges.same("farthest above 0, 388 below", 390, made(new int[][] {{1, 1, 0}}).getResponse(0, 0, 14));
        edges.of("Structures", "the table being at 1600 in the first half of each period, cut, and at -1600 in the");
        // a mass that is where the table is, unless that is too fast
        edges.same("where the table is", 1600, loose(FOLLOWER).getResponse(0, 0, 64));
        for (int[][] masses : MANY) {
            Shakerhall lab = made(masses);
            Model model = model(masses);
            int last = masses.length - 1;
            for (int period = 4; period <= 64; period++) {
                edges.same("the last of " + masses.length + " at " + period, model.getResponse(0, last, period),
                        lab.getResponse(0, last, period));
            }
        }
    }

    private static void resonances(Edges edges) {
        edges.of("Structures", "Its resonance is the period of the greatest response of its last mass, of like ones");
        edges.same("the longest", 64, made(new int[][] {{99, 20, 0}}).getResonance(0));
        Shakerhall limp = loose(new int[][] {{5, 1, 0}});
        edges.same("it does not answer at all", 0, limp.getResponse(0, 0, 64));
        edges.same("of like ones, 0 each, the shortest", 4, limp.getResonance(0));
        Shakerhall stiff = loose(FOLLOWER);
        edges.same("of like ones, 1600 each, the shortest", 4, stiff.getResonance(0));
        edges.same("the first of them", 1600, stiff.getResponse(0, 0, 4));
        Shakerhall tower = Labs.tower();
        edges.same("of the last mass", 18, tower.getResonance(0));
        for (int[][] masses : MANY) {
            edges.same("resonance of " + masses.length, model(masses).getResonance(0), made(masses).getResonance(0));
        }
    }

    private static void responses(Edges edges) {
        Consumer<Shakerhall> two = lab -> {
            lab.addStructure();
            lab.addMass(0, 10, 500, 5);
            lab.addMass(0, 4, 300, 2);
        };
        edges.of(6, "`mass`: the mass, from 0");
        edges.row(Labs.BARE, 0, (lab, n) -> lab.getResponse(0, n, 16));
        edges.row(two, 2, (lab, n) -> lab.getResponse(0, n, 16));
        edges.row(Labs.ALL, 4, (lab, n) -> lab.getResponse(3, n, 16));
        edges.of(6, "`period`: 4 to 64");
        edges.range(two, 4, 64, (lab, n) -> lab.getResponse(0, 1, n));
        edges.noStructure(6, (lab, n) -> lab.getResponse(n, 0, 16));
        edges.of(6, "Throws `IllegalArgumentException` if a number is out of range");
        edges.range(Labs.ALL, 4, 64, (lab, n) -> lab.getResponse(5, 3, n));
        edges.refused("period 0, by which nothing can be divided", Edges.RANGE, two, lab -> lab.getResponse(0, 0, 0));
        edges.refused("period -4", Edges.RANGE, two, lab -> lab.getResponse(0, 0, -4));
    }
}
