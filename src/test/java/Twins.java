import java.util.ArrayList;
import java.util.List;
import java.util.function.Consumer;
import java.util.function.Function;

/**
 * Two laboratories made alike. Calls that throw are made on the first one alone; at the end both must
 * still answer alike, which shows that a call which throws changes nothing.
 */
final class Twins {
    private final Check check;
    private final Shakerhall tried = new Shakerhall();
    private final Shakerhall calm = new Shakerhall();

    Twins(Check check, Consumer<Shakerhall> setUp) {
        this.check = check;
        setUp.accept(tried);
        setUp.accept(calm);
    }

    Twins fails(String what, Class<? extends Throwable> due, Function<Shakerhall, Object> call) {
        check.fails(what, due, () -> call.apply(tried));
        return this;
    }

    void areAlike(String what) {
        check.same(what + " leaves all as it was", answers(calm), answers(tried));
    }

    /** What a laboratory answers of itself, what its setters had, and what its counters come to. */
    private static List<String> answers(Shakerhall lab) {
        List<String> all = new ArrayList<>();
        all.add(lab.checksum() + " " + lab.countCycles() + " " + lab.damageOfRow());
        all.add(Check.outcome(() -> lab.type(7)) + " " + lab.wipe());
        for (int s = 0; s < 6 && isThere(lab, s); s++) {
            structure(lab, s, all);
        }
        for (int i = 0; i < 8; i++) {
            int sensor = i;
            all.add("sensor " + Check.outcome(() -> lab.read(sensor, 16))
                    + Check.outcome(() -> lab.setLoose(sensor, true)));
        }
        for (int r = 0; r < 6 && !Check.outcome(run(lab, r)).startsWith("throws"); r++) {
            runAnswers(lab, r, all);
        }
        for (int s = 0; s < 4; s++) {
            specification(lab, s, all);
        }
        all.add(Check.outcome(lab::addStructure) + Check.outcome(lab::addSpecification)
                + Check.outcome(() -> lab.addSensor(0, 0, 100, 1)) + Check.outcome(() -> lab.addRun(0, 0, 'm')));
        return all;
    }

    private static boolean isThere(Shakerhall lab, int structure) {
        return !Check.outcome(() -> lab.getDamage(structure)).startsWith("throws");
    }

    private static Check.Call run(Shakerhall lab, int run) {
        return () -> lab.getState(run);
    }

    private static void structure(Shakerhall lab, int s, List<String> all) {
        StringBuilder told = new StringBuilder("structure ");
        told.append(lab.getCracks(s)).append(' ').append(lab.getDamage(s)).append(' ').append(lab.setLife(s, 9));
        told.append(' ').append(Check.outcome(() -> lab.differs(s)));
        for (int b = 0; b < 8; b++) {
            told.append(' ').append(lab.getFelt(s, b));
        }
        for (int m = 0; m < 4; m++) {
            int mass = m;
            told.append(' ').append(Check.outcome(() -> lab.getSpring(s, mass)));
        }
        told.append(' ').append(Check.outcome(() -> lab.getResponse(s, 0, 16)));
        all.add(told.toString());
    }

    private static void runAnswers(Shakerhall lab, int r, List<String> all) {
        StringBuilder told = new StringBuilder("run ");
        told.append(lab.getState(r)).append(' ').append(lab.getMinutes(r)).append(' ').append(lab.countEvents(r));
        told.append(' ').append(lab.setAbort(r, 5)).append(' ').append(lab.countOver(r));
        for (int b = 0; b < 8; b++) {
            int band = b;
            told.append(' ').append(lab.getDue(r, b)).append('/').append(lab.getDrive(r, b));
            told.append('/').append(Check.outcome(() -> lab.sign(r, band)));
        }
        told.append(' ').append(lab.getBand(r, 4));
        all.add(told.toString());
    }

    private static void specification(Shakerhall lab, int s, List<String> all) {
        StringBuilder told = new StringBuilder("specification");
        for (int b = 0; b < 8; b += 7) {
            int band = b;
            told.append(' ').append(Check.outcome(() -> lab.setLevel(s, band, 1)));
            told.append(' ').append(Check.outcome(() -> lab.setTolerance(s, band, 1)));
        }
        all.add(told.toString());
    }
}
