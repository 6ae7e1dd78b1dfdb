import java.util.ArrayList;
import java.util.List;
import java.util.function.Supplier;

/**
 * All that laboratories which were made alike answer of themselves. Some of it shows only by a call that
 * changes it, so each group of questions gets a laboratory of its own, which with a set-up of 200 calls
 * does not come to 512.
 */
final class Answers {
    private static final int[] EVENTS = {0, 1, 2, 3, 56, 57, 58, 59, 60};
    private final List<String> all = new ArrayList<>();
    private StringBuilder told = new StringBuilder();

    private Answers() {
    }

    static List<String> of(Supplier<Shakerhall> made) {
        Answers answers = new Answers();
        answers.structures(made.get());
        answers.instruments(made.get());
        answers.runs(made.get(), 0);
        answers.runs(made.get(), 3);
        return answers.all;
    }

    private void ask(Check.Call call) {
        told.append(' ').append(Check.outcome(call));
    }

    private void end(String title) {
        all.add(title + told);
        told = new StringBuilder();
    }

    private void structures(Shakerhall lab) {
        ask(lab::checksum);
        ask(lab::isSound);
        ask(lab::countCycles);
        ask(lab::damageOfRow);
        ask(() -> lab.type(77777));
        ask(lab::damageOfRow);
        ask(lab::wipe);
        end("laboratory");
        for (int s = 0; s < 6; s++) {
            structure(lab, s);
        }
        ask(lab::addStructure);
        end("structures");
    }

    private void structure(Shakerhall lab, int s) {
        ask(() -> lab.getCracks(s));
        ask(() -> lab.getDamage(s));
        ask(() -> lab.differs(s));
        for (int i = 0; i < 8; i++) {
            int band = i;
            ask(() -> lab.getFelt(s, band));
        }
        for (int i = 0; i < 4; i++) {
            int mass = i;
            ask(() -> lab.getSpring(s, mass));
            ask(() -> lab.getResponse(s, mass, 16));
        }
        ask(() -> lab.setLife(s, 7));
        ask(() -> lab.addMass(s, 1, 1, 0));
        end("structure " + s);
    }

    private void instruments(Shakerhall lab) {
        for (int i = 0; i < 8; i++) {
            int sensor = i;
            ask(() -> lab.read(sensor, 4));
            ask(() -> lab.read(sensor, 64));
            ask(() -> lab.setLoose(sensor, true));
        }
        ask(() -> lab.addSensor(0, 0, 100, 1));
        end("sensors");
        for (int i = 0; i < 32; i++) {
            int specification = i / 8;
            int band = i % 8;
            ask(() -> lab.setLevel(specification, band, 1));
            ask(() -> lab.setTolerance(specification, band, 1));
        }
        ask(lab::addSpecification);
        ask(() -> lab.addRun(0, 0, 'm'));
        end("specifications");
    }

    private void runs(Shakerhall lab, int from) {
        for (int i = from; i < from + 3; i++) {
            int run = i;
            ask(() -> lab.getState(run));
            ask(() -> lab.getMinutes(run));
            ask(() -> lab.countOver(run));
            ask(() -> lab.setAbort(run, 5));
            ask(() -> lab.countEvents(run));
            for (int event : EVENTS) {
                ask(() -> lab.getEvent(run, event));
            }
            for (int band = 0; band < 8; band++) {
                band(lab, run, band);
            }
            for (int k = 0; k < 8; k++) {
                int sensor = k;
                ask(() -> lab.addControl(run, sensor, 1));
            }
            end("run " + run);
        }
    }

    private void band(Shakerhall lab, int run, int band) {
        ask(() -> lab.getBand(run, band));
        ask(() -> lab.getDue(run, band));
        ask(() -> lab.isInBand(run, band));
        ask(() -> lab.getDrive(run, band));
        ask(() -> lab.sign(run, band));
        ask(() -> lab.setNotch(run, band, 1));
    }
}
