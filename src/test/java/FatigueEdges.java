import java.util.Arrays;

/** The edges of promises 37 to 41, and of the section Fatigue. */
final class FatigueEdges {
    private FatigueEdges() {
    }

    static void run(Edges edges) {
        empty(edges);
        turns(edges);
        pile(edges);
        halves(edges);
        damages(edges);
        lives(edges);
        wrongLives(edges);
        wear(edges);
        softest(edges);
        fullSpring(edges);
        counted(edges);
        highestPile(edges);
    }

    private static Shakerhall typed(int... places) {
        Shakerhall lab = new Shakerhall();
        for (int place : places) {
            lab.type(place);
        }
        return lab;
    }

    private static void row(Edges edges, String what, int cycles, long damage, int... places) {
        Shakerhall lab = typed(places);
        edges.same(what + ", cycles", cycles, lab.countCycles());
        edges.same(what + ", damage", damage, lab.damageOfRow());
        edges.same(what + ", asked again", cycles, lab.countCycles());
        edges.same(what + ", which stays typed", places.length, lab.wipe());
        edges.same(what + ", wiped", 0L, lab.damageOfRow());
    }

    private static void empty(Edges edges) {
        edges.of("Fatigue", "Loads are counted by rain.");
        row(edges, "no place", 0, 0);
        row(edges, "one place", 0, 0, 99999);
        row(edges, "two like places", 0, 0, -99999, -99999);
        row(edges, "the document's example", 2, 1064, 0, 10000, 4000, 8000, 0);
        int[] all = new int[24];
        for (int i = 0; i < 24; i++) {
            all[i] = i % 2 == 0 ? 99999 : -99999;
        }
        // two places more are one cycle more, and of the 24 the last two are left
        row(edges, "24 places as wide as can be", 11, 11L * 7880599 + 7880599 / 2, all);
    }

    private static void turns(Edges edges) {
        edges.of("Fatigue", "Of a row of places the first, the last, and those between at which it turns are kept");
        row(edges, "a way up", 0, 500, 0, 1, 5000, 9999, 10000);
        row(edges, "a way down", 0, 500, 10000, 9999, 5000, 1, 0);
        row(edges, "the first one is kept", 0, 500, 10000, 0);
        row(edges, "one turn", 1, 1000, 0, 5000, 10000, 5000, 0);
        row(edges, "one turn, the last one less far", 0, (1000 + 512) / 2, 0, 5000, 10000, 5000, 2000);
        edges.of("Fatigue", "of like places one behind the other the first alone.");
        row(edges, "a way up with a rest", 0, 500, 0, 3000, 3000, 3000, 10000);
        row(edges, "a turn with a rest", 1, 1000, 0, 10000, 10000, 0);
        row(edges, "rest at first", 0, 500, 7, 7, 7, 10007);
        row(edges, "rest at last", 0, 500, 0, 10000, 10000, 10000);
        row(edges, "rest alone", 0, 0, 5, 5, 5, 5);
        row(edges, "like places that are no neighbours", 4, 4 * 125 + 125 / 2,
                0, 5000, 0, 5000, 0, 5000, 0, 5000, 0, 5000);
    }

    private static void pile(Edges edges) {
        edges.of("Fatigue", "as long as three or more lie there and the span of the two on top is not less than that");
        row(edges, "like spans", 1, 1000, 0, 10000, 0);
        row(edges, "one less", 0, (1000 + 729) / 2, 0, 10000, 1);
        row(edges, "one more", 1, 1000, 0, 10000, -1);
        row(edges, "two places lie there", 0, 500, 0, 10000);
        row(edges, "three below each other", 3, 1000 + 64 + 8, 0, 10000, 4000, 8000, 5000, 7000, 0);
        row(edges, "spans that grow", 2, 1 + 27, 0, 1000, -1000, 2000, -2000);
        row(edges, "spans that shrink", 0, (1000 + 512 + 216 + 64) / 2, 0, 10000, 2000, 8000, 4000);
        row(edges, "what is left is looked at again", 2, 8 + 512, 0, 8000, 4000, 6000, -2000);
        int[] growing = new int[24];
        for (int i = 0; i < 24; i++) {
            growing[i] = i % 2 == 0 ? -i : i;
        }
        row(edges, "24 that grow", 11, 0, growing);
    }

    private static void halves(Edges edges) {
        edges.of("Fatigue", "Spans of neighbours that are left on the pile at last count half a cycle each.");
        row(edges, "one", 0, 500, 0, 10000);
        row(edges, "two", 0, 864, 0, 10000, 1000);
        row(edges, "two and a cycle", 1, 8 + 864, 0, 7000, 5000, 10000, 1000);
        int[] shrinking = new int[24];
        long sum = 0;
        for (int i = 0; i < 24; i++) {
            shrinking[i] = (24 - i) * (i % 2 == 0 ? 1000 : -1000);
            sum += i == 0 ? 0 : (49L - 2 * i) * (49 - 2 * i) * (49 - 2 * i);
        }
        row(edges, "24 that shrink", 0, sum / 2, shrinking);
    }

    private static void damages(Edges edges) {
        edges.of("Fatigue", "The damage of a span is the span divided by 1000, cut, cubed; that of a row is the");
        row(edges, "a cycle of 999", 1, 0, 0, 999, 0);
        row(edges, "a cycle of 1000", 1, 1, 0, 1000, 0);
        row(edges, "a cycle of 1999", 1, 1, 0, 1999, 0);
        row(edges, "a cycle of 2000", 1, 8, 0, 2000, 0);
        row(edges, "a cycle below 0", 1, 8, 0, -2000, 0);
        row(edges, "a half of 999", 0, 0, 0, 999);
        row(edges, "a half of 1000, cut", 0, 0, 0, 1000);
        row(edges, "a half of 2000", 0, 4, 0, 2000);
        row(edges, "the sum of halves is cut, not each", 0, 1, 0, 1999, 900);
        row(edges, "27 and 8 halves, cut", 0, 17, 0, 3000, 999);
        row(edges, "the widest cycle", 1, 7880599, 99999, -99999, 99999);
        row(edges, "the widest half", 0, 3940299, 99999, -99999);
    }

    private static void lives(Edges edges) {
        edges.of("Fatigue", "Each structure has a life, 1 to 1000000000, 1000000000 at first.");
        Shakerhall lab = Edges.made(Labs.BARE);
        lab.addStructure();
        edges.same("at first", 1000000000, lab.setLife(0, 1));
        edges.same("the least", 1, lab.setLife(0, 1000000000));
        edges.same("the greatest", 1000000000, lab.setLife(0, 7));
        edges.same("another one's", 1000000000, lab.setLife(1, 8));
        edges.same("its own", 7, lab.setLife(0, 9));
    }

    private static void wrongLives(Edges edges) {
        edges.of(39, "`life`: 1 to 1000000000");
        edges.range(Labs.BARE, 1, 1000000000, (lab, n) -> lab.setLife(0, n));
        edges.noStructure(39, (lab, n) -> lab.setLife(n, 5));
        edges.of(39, "Throws `IllegalArgumentException` if a number is out of range");
        edges.range(Labs.ALL, 1, 1000000000, (lab, n) -> lab.setLife(5, n));
        edges.noStructure(40, (lab, n) -> lab.getDamage(n));
        edges.noStructure(41, (lab, n) -> lab.getCracks(n));
    }

    /** A mass that is where the table is: a shock to 20000, and back to 0, is a cycle whose damage is 8000. */
    private static Shakerhall follower(int life) {
        Shakerhall lab = StepEdges.loose(StepEdges.FOLLOWER);
        lab.type(20000);
        lab.setLife(0, life);
        return lab;
    }

    private static void wear(Edges edges) {
        edges.of("Fatigue", "The damage of the row of places of its last mass in a shock, 0 ahead of the first step,");
        Shakerhall lab = follower(16000);
        edges.same("0 at first", 0L, lab.getDamage(0));
        edges.same("shock", 20000, lab.shock(0));
        edges.same("a cycle, as the row begins with 0", 8000L, lab.getDamage(0));
        edges.same("one crack, as before", 1, lab.getCracks(0));
        lab.shock(0);
        edges.same("just its life", 16000L, lab.getDamage(0));
        edges.same("one crack still", 1, lab.getCracks(0));
        lab.shock(0);
        edges.same("more than its life", 0L, lab.getDamage(0));
        edges.same("a crack came", 2, lab.getCracks(0));
        Shakerhall less = follower(15999);
        less.shock(0);
        less.shock(0);
        edges.same("one more than its life", 0L, less.getDamage(0));
        edges.same("a crack came", 2, less.getCracks(0));
        Shakerhall least = follower(1);
        least.shock(0);
        edges.same("one crack for all that is above it", 2, least.getCracks(0));
        edges.same("nothing is kept", 0L, least.getDamage(0));
        Shakerhall tiny = follower(1);
        tiny.wipe();
        tiny.type(1000);
        tiny.shock(0);
        edges.same("1 of a life of 1", 1L, tiny.getDamage(0));
        tiny.shock(0);
        edges.same("2 of a life of 1", 0L, tiny.getDamage(0));
        Shakerhall down = follower(1);
        down.wipe();
        down.type(-1000);
        down.shock(0);
        edges.same("a cycle down from 0, and not from below it", 1L, down.getDamage(0));
        Shakerhall shorter = follower(8000);
        shorter.shock(0);
        shorter.setLife(0, 1);
        edges.same("a shorter life alone", 8000L, shorter.getDamage(0));
        shorter.sweep(0, 4, 64, 99);
        shorter.getSpectrum(4);
        edges.same("sweeps and spectra", 8000L, shorter.getDamage(0));
        edges.same("the row that is typed is another one", 0L, shorter.damageOfRow());
    }

    /** Three masses of which a shock breaks something. */
    private static Shakerhall fragile(int... springs) {
        Shakerhall lab = Edges.made(Labs.BARE);
        for (int spring : springs) {
            lab.addMass(0, 10, spring, 5);
        }
        lab.setLife(0, 1);
        lab.type(90000);
        lab.type(-90000);
        lab.type(90000);
        return lab;
    }

    private static String springs(Shakerhall lab) {
        return lab.getSpring(0, 0) + " " + lab.getSpring(0, 1) + " " + lab.getSpring(0, 2);
    }

    private static void softest(Edges edges) {
        edges.of("Fatigue", "a crack comes to its softest spring, cracks counted, of like ones the first");
        String[] due = {"450 500 500", "500 360 400", "450 500 501", "360 500 400"};
        int[][] told = {{500, 500, 500}, {500, 400, 400}, {500, 500, 501}, {400, 500, 400}};
        for (int i = 0; i < 4; i++) {
            Shakerhall lab = fragile(told[i]);
            lab.shock(0);
            edges.same("told " + Arrays.toString(told[i]), due[i], springs(lab));
            edges.same("one crack", 1, lab.getCracks(0));
        }
        Shakerhall cracked = fragile(500, 500, 400);
        for (int i = 0; i < 3; i++) {
            cracked.crack(0, 1);
        }
        cracked.shock(0);
        edges.same("500 with three cracks is softer than 400", "500 300 400", springs(cracked));
        Shakerhall like = fragile(500, 400, 360);
        like.crack(0, 1);
        like.shock(0);
        edges.same("400 with a crack is like 360, and ahead of it", "500 320 360", springs(like));
    }

    private static void fullSpring(Edges edges) {
        edges.of("Fatigue", "unless that has 9, and in any case the damage is 0.");
        Shakerhall lab = fragile(500, 400, 450);
        for (int i = 1; i <= 9; i++) {
            lab.shock(0);
            edges.same("cracks", i, lab.getCracks(0));
            edges.same("damage", 0L, lab.getDamage(0));
        }
        edges.same("all in one spring", "500 40 450", springs(lab));
        lab.shock(0);
        edges.same("no tenth crack, and none elsewhere", "500 40 450", springs(lab));
        edges.same("the damage is gone for all that", 0L, lab.getDamage(0));
        edges.same("nine cracks", 9, lab.getCracks(0));
        Shakerhall eight = fragile(500, 400, 450);
        for (int i = 0; i < 8; i++) {
            eight.crack(0, 1);
        }
        eight.shock(0);
        edges.same("the ninth one", "500 40 450", springs(eight));
        edges.yes("sound", eight.isSound());
    }

    private static void counted(Edges edges) {
        edges.of("Fatigue", "The damage of the row of places of its last mass in a shock, 0 ahead of the first step,");
        int[][][] structures = {{{2, 8791, 37}}, {{1, 1600, 0}}, {{16, 9984, 0}}, {{1, 9999, 99}}, {{3, 8, 93}},
            {{10, 500, 5}, {4, 300, 2}}, {{1, 2, 75}, {10, 6, 0}}};
        for (int[][] masses : structures) {
            Shakerhall lab = StepEdges.made(masses);
            Model model = StepEdges.model(masses);
            for (int i = 0; i < 24; i++) {
                lab.type((99999 - 77 * i) * (1 - i % 2 * 2));
                model.type((99999 - 77 * i) * (1 - i % 2 * 2));
                lab.shock(0);
                model.shock(0);
                edges.same("damage behind " + (i + 1) + " shocks", model.getDamage(0), lab.getDamage(0));
            }
        }
    }

    /** A mass that swings to and fro in each step but the second one, each time less far, so that 88 places are left. */
    private static void highestPile(Edges edges) {
        edges.of("Fatigue", "Spans of neighbours that are left on the pile at last count half a cycle each.");
        int[] places = new int[24];
        Arrays.fill(places, 0, 2, -8175);
        places[1] = -55938;
        Arrays.fill(places, 2, 4, 6472);
        Arrays.fill(places, 4, 13, 3393);
        Arrays.fill(places, 13, 24, 3931);
        Shakerhall lab = StepEdges.loose(new int[][] {{3, 1, 93}});
        edges.same("the second place", 78339, StepEdges.shock(lab, places));
        edges.same("half of 87 spans", 1522489L / 2, lab.getDamage(0));
    }
}
