import java.util.ArrayList;
import java.util.NoSuchElementException;

/** A laboratory that shakes structures until they fail. ../shared/DOC.md tells what each call promises. */
public final class Shakerhall {
    private static final int MOST_STRUCTURES = 6;
    private static final int MOST_MASSES = 4;
    private static final int MOST_CRACKS = 9;
    private static final int MOST_SENSORS = 8;
    private static final int MOST_SPECIFICATIONS = 4;
    private static final int MOST_RUNS = 6;
    private static final int MOST_CONTROLS = 4;
    private static final int MOST_PAPERS = 9;
    private static final int MOST_MINUTES = 99;
    private static final int MOST_EVENTS = 60;
    private static final int MOST_TYPED = 24;
    private static final int MOST_NOTCH = 90;
    private static final int TOP_STAGE = 3;

    private static final int BANDS = 8;
    private static final int[] BAND_PERIODS = {4, 6, 8, 12, 16, 24, 32, 48};

    private static final int SHORTEST_PERIOD = 4;
    private static final int LONGEST_PERIOD = 64;
    private static final int TONE_STEPS = 256;
    private static final int TONE_HEIGHT = 1600;
    private static final int QUIET_STEPS = 64;
    private static final int STEPS_A_UNIT = 16;
    private static final long FARTHEST = 1000000L;

    private static final int FIRST_DRIVE = 100;
    private static final int GREATEST_DRIVE = 100000;
    private static final int GREATEST_LINE = 1000000;
    private static final int LONGEST_LIFE = 1000000000;
    private static final int SPECTRUM_MASS = 16;
    private static final int SPECTRUM_SPRING = 159744;

    private final ArrayList<Structure> structures = new ArrayList<>();
    private final ArrayList<Sensor> sensors = new ArrayList<>();
    private final ArrayList<Specification> specifications = new ArrayList<>();
    private final ArrayList<Run> runs = new ArrayList<>();
    private final int[] typed = new int[MOST_TYPED];
    private int typedCount;
    private final Rain rain = new Rain();
    private final Chain oneMass = new Chain();

    public Shakerhall() {
    }

    // ---- structures

    public int addStructure() throws IllegalStateException {
        if (structures.size() >= MOST_STRUCTURES) {
            throw new IllegalStateException("no room for a structure");
        }
        structures.add(new Structure());
        return structures.size() - 1;
    }

    public int addMass(int structure, int mass, int spring, int damper)
            throws IndexOutOfBoundsException, IllegalArgumentException, IllegalStateException {
        Chain chain = structureAt(structure).chain;
        checkRange(mass, 1, 99);
        checkRange(spring, 1, 9999);
        checkRange(damper, 0, 99);
        if (chain.masses >= MOST_MASSES) {
            throw new IllegalStateException("no room for a mass");
        }
        chain.hang(mass, spring, damper);
        return chain.masses;
    }

    public int crack(int structure, int mass) throws IndexOutOfBoundsException, IllegalStateException {
        Chain chain = structureAt(structure).chain;
        checkMass(chain, mass);
        if (chain.cracks[mass] >= MOST_CRACKS) {
            throw new IllegalStateException("the spring has all its cracks");
        }
        chain.weaken(mass);
        return chain.cracks[mass];
    }

    public int getSpring(int structure, int mass) throws IndexOutOfBoundsException {
        Chain chain = structureAt(structure).chain;
        checkMass(chain, mass);
        return chain.springs[mass];
    }

    public int getResponse(int structure, int mass, int period)
            throws IndexOutOfBoundsException, IllegalArgumentException {
        Chain chain = structureAt(structure).chain;
        checkMass(chain, mass);
        checkPeriod(period);
        chain.playTone(period);
        return chain.peaks[mass];
    }

    public int getResonance(int structure) throws IndexOutOfBoundsException, UnsupportedOperationException {
        Chain chain = structureAt(structure).chain;
        checkHasMasses(chain);
        return chain.findResonance();
    }

    // ---- sensors

    public int addSensor(int structure, int mass, int gain, int limit)
            throws IndexOutOfBoundsException, IllegalArgumentException, IllegalStateException {
        Structure owner = structureAt(structure);
        checkMass(owner.chain, mass);
        checkRange(gain, 50, 150);
        checkRange(limit, 1, 1000000);
        if (sensors.size() >= MOST_SENSORS) {
            throw new IllegalStateException("no room for a sensor");
        }
        sensors.add(new Sensor(owner, mass, gain, limit));
        return sensors.size() - 1;
    }

    public boolean setLoose(int sensor, boolean is) throws IndexOutOfBoundsException {
        Sensor one = sensorAt(sensor);
        boolean was = one.loose;
        one.loose = is;
        return was;
    }

    public int read(int sensor, int period) throws IndexOutOfBoundsException, IllegalArgumentException {
        Sensor one = sensorAt(sensor);
        checkPeriod(period);
        Chain chain = one.structure.chain;
        chain.playTone(period);
        return one.readingOf(chain.peaks[one.mass]);
    }

    // ---- specifications

    public int addSpecification() throws IllegalStateException {
        if (specifications.size() >= MOST_SPECIFICATIONS) {
            throw new IllegalStateException("no room for a specification");
        }
        specifications.add(new Specification());
        return specifications.size() - 1;
    }

    public int setLevel(int specification, int band, int level)
            throws IndexOutOfBoundsException, IllegalArgumentException {
        Specification one = specificationAt(specification);
        checkBand(band);
        checkRange(level, 0, 99999);
        int before = one.levels[band];
        one.levels[band] = level;
        return before;
    }

    public int setTolerance(int specification, int band, int hundredths)
            throws IndexOutOfBoundsException, IllegalArgumentException {
        Specification one = specificationAt(specification);
        checkBand(band);
        checkRange(hundredths, 1, 50);
        int before = one.tolerances[band];
        one.tolerances[band] = hundredths;
        return before;
    }

    // ---- runs

    public int addRun(int structure, int specification, char way)
            throws IndexOutOfBoundsException, IllegalArgumentException, UnsupportedOperationException,
            IllegalStateException {
        Structure shaken = structureAt(structure);
        Specification asked = specificationAt(specification);
        if (way != 'm' && way != 'x' && way != 'n') {
            throw new IllegalArgumentException("no such way of control");
        }
        checkHasMasses(shaken.chain);
        if (runs.size() >= MOST_RUNS) {
            throw new IllegalStateException("no room for a run");
        }
        runs.add(new Run(shaken, asked, way));
        return runs.size() - 1;
    }

    public int addControl(int run, int sensor, int weight)
            throws IndexOutOfBoundsException, IllegalArgumentException, UnsupportedOperationException,
            IllegalStateException {
        Run one = runAt(run);
        Sensor control = sensorAt(sensor);
        checkRange(weight, 1, 9);
        if (control.structure != one.structure || one.isControlledBy(control)) {
            throw new UnsupportedOperationException("the sensor can't control this run");
        }
        if (one.controlCount >= MOST_CONTROLS) {
            throw new IllegalStateException("no room for a control sensor");
        }
        one.takeControl(control, weight);
        return one.controlCount;
    }

    public int getBand(int run, int band) throws IndexOutOfBoundsException, IllegalArgumentException {
        Run one = runAt(run);
        checkBand(band);
        return one.hasIn(band);
    }

    public int getDue(int run, int band) throws IndexOutOfBoundsException, IllegalArgumentException {
        Run one = runAt(run);
        checkBand(band);
        return one.dueIn(band, one.stage);
    }

    public boolean isInBand(int run, int band) throws IndexOutOfBoundsException, IllegalArgumentException {
        Run one = runAt(run);
        checkBand(band);
        return one.isWithin(band, one.hasIn(band));
    }

    public int getDrive(int run, int band) throws IndexOutOfBoundsException, IllegalArgumentException {
        Run one = runAt(run);
        checkBand(band);
        return one.drives[band];
    }

    public int turnLoop(int run)
            throws IndexOutOfBoundsException, UnsupportedOperationException, IllegalStateException {
        Run one = runAt(run);
        checkGoes(one);
        if (one.minutes >= MOST_MINUTES) {
            throw new IllegalStateException("the run has had its time");
        }
        if (one.isOverLine()) {
            one.breakOff();
            return 0;
        }
        one.turn();
        return one.countWithin();
    }

    public char getState(int run) throws IndexOutOfBoundsException {
        return runAt(run).state;
    }

    public int raise(int run)
            throws IndexOutOfBoundsException, UnsupportedOperationException, IllegalStateException {
        Run one = runAt(run);
        checkGoes(one);
        if (one.countWithin() < BANDS) {
            throw new UnsupportedOperationException("a band is not in band");
        }
        if (one.stage >= TOP_STAGE) {
            throw new IllegalStateException("the run is at the highest stage");
        }
        one.stage++;
        one.keepEvent('r');
        return one.stage;
    }

    public int takeUp(int run) throws IndexOutOfBoundsException, UnsupportedOperationException {
        Run one = runAt(run);
        if (one.state == 'g') {
            throw new UnsupportedOperationException("the run is not broken off");
        }
        one.beginAgain();
        return one.minutes;
    }

    public int sign(int run, int band)
            throws IndexOutOfBoundsException, IllegalArgumentException, IllegalStateException {
        Run one = runAt(run);
        checkBand(band);
        if (one.papers[band] >= MOST_PAPERS) {
            throw new IllegalStateException("no room for a paper");
        }
        one.papers[band]++;
        return one.papers[band];
    }

    public int setNotch(int run, int band, int hundredths)
            throws IndexOutOfBoundsException, IllegalArgumentException, UnsupportedOperationException {
        Run one = runAt(run);
        checkBand(band);
        checkRange(hundredths, 0, MOST_NOTCH);
        if (one.papers[band] < 1) {
            throw new UnsupportedOperationException("no paper is signed");
        }
        int before = one.notches[band];
        one.papers[band]--;
        one.notches[band] = hundredths;
        one.keepEvent('n');
        return before;
    }

    public int setAbort(int run, int line) throws IndexOutOfBoundsException, IllegalArgumentException {
        Run one = runAt(run);
        checkRange(line, 1, GREATEST_LINE);
        int before = one.abortLine;
        one.abortLine = line;
        return before;
    }

    public int getMinutes(int run) throws IndexOutOfBoundsException {
        return runAt(run).minutes;
    }

    public int getFelt(int structure, int band) throws IndexOutOfBoundsException, IllegalArgumentException {
        Structure one = structureAt(structure);
        checkBand(band);
        return one.felt[band];
    }

    public int countOver(int run) throws IndexOutOfBoundsException {
        return runAt(run).countOvertested();
    }

    public int countEvents(int run) throws IndexOutOfBoundsException {
        return runAt(run).eventCount;
    }

    public char getEvent(int run, int index) throws IndexOutOfBoundsException, NoSuchElementException {
        Run one = runAt(run);
        if (index < 0 || index >= one.eventCount) {
            throw new NoSuchElementException("no such event");
        }
        return one.events[index];
    }

    // ---- sweeps and shocks

    public int sweep(int structure, int from, int to, int steps)
            throws IndexOutOfBoundsException, IllegalArgumentException, UnsupportedOperationException {
        Chain chain = structureAt(structure).chain;
        checkPeriod(from);
        checkPeriod(to);
        checkRange(steps, 1, 99);
        checkHasMasses(chain);
        return chain.sweepThrough(from, to, steps);
    }

    public int type(int place) throws IllegalArgumentException, IllegalStateException {
        checkRange(place, -99999, 99999);
        if (typedCount >= MOST_TYPED) {
            throw new IllegalStateException("no room for a place");
        }
        typed[typedCount] = place;
        typedCount++;
        return typedCount;
    }

    public int wipe() {
        int before = typedCount;
        typedCount = 0;
        return before;
    }

    public int shock(int structure) throws IndexOutOfBoundsException, UnsupportedOperationException {
        Structure one = structureAt(structure);
        Chain chain = one.chain;
        checkHasMasses(chain);
        checkTyped();
        chain.rest();
        rain.clear();
        rain.fall(0);
        for (int step = 0; step < typedCount + QUIET_STEPS; step++) {
            chain.stepTo(shockPlace(step));
            rain.fall((int) chain.places[chain.masses - 1]);
        }
        rain.gather();
        one.wear(rain.damage());
        return chain.lastPeak();
    }

    public int getSpectrum(int period) throws IllegalArgumentException, UnsupportedOperationException {
        checkPeriod(period);
        checkTyped();
        oneMass.beSingle(SPECTRUM_MASS, SPECTRUM_SPRING / (period * period));
        oneMass.rest();
        int most = 0;
        for (int step = 0; step < typedCount + QUIET_STEPS; step++) {
            oneMass.stepTo(shockPlace(step));
            most = Math.max(most, oneMass.awayFromTable());
        }
        return most;
    }

    private int shockPlace(int step) {
        return step < typedCount ? typed[step] : 0;
    }

    // ---- fatigue

    public int countCycles() {
        gatherTyped();
        return rain.cycles;
    }

    public long damageOfRow() {
        gatherTyped();
        return rain.damage();
    }

    private void gatherTyped() {
        rain.clear();
        for (int i = 0; i < typedCount; i++) {
            rain.fall(typed[i]);
        }
        rain.gather();
    }

    public int setLife(int structure, int life) throws IndexOutOfBoundsException, IllegalArgumentException {
        Structure one = structureAt(structure);
        checkRange(life, 1, LONGEST_LIFE);
        int before = one.life;
        one.life = life;
        return before;
    }

    public long getDamage(int structure) throws IndexOutOfBoundsException {
        return structureAt(structure).damage;
    }

    public int getCracks(int structure) throws IndexOutOfBoundsException {
        return structureAt(structure).chain.sumCracks();
    }

    // ---- evidence

    public int takeSignature(int structure) throws IndexOutOfBoundsException, UnsupportedOperationException {
        Structure one = structureAt(structure);
        checkHasMasses(one.chain);
        one.keepSignature();
        return one.signedResponse;
    }

    public boolean differs(int structure) throws IndexOutOfBoundsException, NoSuchElementException {
        Structure one = structureAt(structure);
        if (!one.signed) {
            throw new NoSuchElementException("no signature was taken");
        }
        return one.isUnlikeSignature();
    }

    public float bandShare(int run) throws IndexOutOfBoundsException {
        return (float) runAt(run).countWithin() / (float) BANDS;
    }

    public double meanDrive(int run) throws IndexOutOfBoundsException {
        return (double) runAt(run).sumDrives() / (double) BANDS;
    }

    public long checksum() {
        long sum = 7;
        for (int i = 0; i < structures.size(); i++) {
            Structure one = structures.get(i);
            sum = 31 * sum + one.chain.masses;
            sum = 31 * sum + one.chain.sumCracks();
            sum = 31 * sum + one.damage;
        }
        for (int i = 0; i < runs.size(); i++) {
            Run one = runs.get(i);
            sum = 31 * sum + one.stage;
            sum = 31 * sum + one.sumDrives();
            sum = 31 * sum + one.minutes;
        }
        return sum;
    }

    public boolean isSound() {
        boolean sound = true;
        for (int i = 0; i < structures.size(); i++) {
            sound = sound && structures.get(i).isWhole();
        }
        for (int i = 0; i < runs.size(); i++) {
            sound = sound && runs.get(i).isWhole();
        }
        return sound;
    }

    // ---- what is looked at ahead of a call's work

    private Structure structureAt(int number) {
        if (number < 0 || number >= structures.size()) {
            throw new IndexOutOfBoundsException("no such structure");
        }
        return structures.get(number);
    }

    private Sensor sensorAt(int number) {
        if (number < 0 || number >= sensors.size()) {
            throw new IndexOutOfBoundsException("no such sensor");
        }
        return sensors.get(number);
    }

    private Specification specificationAt(int number) {
        if (number < 0 || number >= specifications.size()) {
            throw new IndexOutOfBoundsException("no such specification");
        }
        return specifications.get(number);
    }

    private Run runAt(int number) {
        if (number < 0 || number >= runs.size()) {
            throw new IndexOutOfBoundsException("no such run");
        }
        return runs.get(number);
    }

    private static void checkMass(Chain chain, int mass) {
        if (mass < 0 || mass >= chain.masses) {
            throw new IndexOutOfBoundsException("no such mass");
        }
    }

    private static void checkRange(int number, int least, int most) {
        if (number < least || number > most) {
            throw new IllegalArgumentException("a number is out of range");
        }
    }

    private static void checkBand(int band) {
        checkRange(band, 0, BANDS - 1);
    }

    private static void checkPeriod(int period) {
        checkRange(period, SHORTEST_PERIOD, LONGEST_PERIOD);
    }

    private static void checkHasMasses(Chain chain) {
        if (chain.masses < 1) {
            throw new UnsupportedOperationException("the structure has no masses");
        }
    }

    private static void checkGoes(Run run) {
        if (run.state != 'g') {
            throw new UnsupportedOperationException("the run is broken off");
        }
    }

    private void checkTyped() {
        if (typedCount < 1) {
            throw new UnsupportedOperationException("nothing is typed");
        }
    }

    /** Masses that hang on one another, the first one on the table, moved by steps. */
    static final class Chain {
        final int[] weights = new int[MOST_MASSES];
        final int[] toldSprings = new int[MOST_MASSES];
        final int[] springs = new int[MOST_MASSES];
        final int[] dampers = new int[MOST_MASSES];
        final int[] cracks = new int[MOST_MASSES];
        final long[] places = new long[MOST_MASSES];
        final long[] speeds = new long[MOST_MASSES];
        final long[] pulls = new long[MOST_MASSES];
        final int[] peaks = new int[MOST_MASSES];
        int masses;
        long table;

        void hang(int weight, int spring, int damper) {
            weights[masses] = weight;
            toldSprings[masses] = spring;
            springs[masses] = spring;
            dampers[masses] = damper;
            masses++;
        }

        void beSingle(int weight, int spring) {
            masses = 0;
            hang(weight, spring, 0);
        }

        void weaken(int mass) {
            cracks[mass]++;
            springs[mass] = toldSprings[mass] * (10 - cracks[mass]) / 10;
        }

        int softest() {
            int found = 0;
            for (int i = 1; i < masses; i++) {
                if (springs[i] < springs[found]) {
                    found = i;
                }
            }
            return found;
        }

        int sumCracks() {
            int sum = 0;
            for (int i = 0; i < masses; i++) {
                sum += cracks[i];
            }
            return sum;
        }

        void rest() {
            table = 0;
            for (int i = 0; i < MOST_MASSES; i++) {
                places[i] = 0;
                speeds[i] = 0;
                peaks[i] = 0;
            }
        }

        void stepTo(int place) {
            pullAll(place, (long) STEPS_A_UNIT * (place - table));
            table = place;
            for (int i = 0; i < masses; i++) {
                // what pulls the one behind pulls this one back just as much
                long back = i + 1 < masses ? pulls[i + 1] : 0;
                long push = (pulls[i] - back) / ((long) STEPS_A_UNIT * weights[i]);
                speeds[i] = within(speeds[i] + push);
                places[i] = within(places[i] + speeds[i] / STEPS_A_UNIT);
                peaks[i] = Math.max(peaks[i], (int) Math.abs(places[i]));
            }
        }

        /** Sets the pull of each spring and damper before any mass moves: all masses move at once. */
        private void pullAll(long tablePlace, long tableSpeed) {
            long aheadPlace = tablePlace;
            long aheadSpeed = tableSpeed;
            for (int i = 0; i < masses; i++) {
                pulls[i] = springs[i] * (aheadPlace - places[i]) + dampers[i] * (aheadSpeed - speeds[i]);
                aheadPlace = places[i];
                aheadSpeed = speeds[i];
            }
        }

        private static long within(long number) {
            if (number > FARTHEST) {
                return FARTHEST;
            }
            return number < -FARTHEST ? -FARTHEST : number;
        }

        void goOn(int period, int steps) {
            for (int step = 0; step < steps; step++) {
                stepTo(step % period < period / 2 ? TONE_HEIGHT : -TONE_HEIGHT);
            }
        }

        void playTone(int period) {
            rest();
            goOn(period, TONE_STEPS);
        }

        int lastPeak() {
            return masses < 1 ? 0 : peaks[masses - 1];
        }

        int awayFromTable() {
            return (int) Math.abs(places[0] - table);
        }

        int findResonance() {
            int found = SHORTEST_PERIOD;
            int most = -1;
            for (int period = SHORTEST_PERIOD; period <= LONGEST_PERIOD; period++) {
                playTone(period);
                if (lastPeak() > most) {
                    most = lastPeak();
                    found = period;
                }
            }
            return found;
        }

        int sweepThrough(int from, int to, int steps) {
            int way = from <= to ? 1 : -1;
            int periods = Math.abs(to - from) + 1;
            int found = from;
            int most = 0;
            rest();
            for (int i = 0; i < periods; i++) {
                goOn(from + way * i, steps);
                // the peak is that of the whole sweep, so it grows only where a period beats all ahead of it
                if (lastPeak() > most) {
                    most = lastPeak();
                    found = from + way * i;
                }
            }
            return found;
        }
    }

    /** A chain with what it felt, how worn it is, and its signature. */
    static final class Structure {
        final Chain chain = new Chain();
        final int[] felt = new int[BANDS];
        int life = LONGEST_LIFE;
        long damage;
        boolean signed;
        int signedPeriod;
        int signedResponse;

        void feel(int band, int drive) {
            chain.playTone(BAND_PERIODS[band]);
            int now = (int) ((long) chain.lastPeak() * drive / 100);
            felt[band] = Math.max(felt[band], now);
        }

        void wear(long more) {
            damage += more;
            if (damage > life) {
                int softest = chain.softest();
                if (chain.cracks[softest] < MOST_CRACKS) {
                    chain.weaken(softest);
                }
                damage = 0;
            }
        }

        void keepSignature() {
            signed = true;
            signedPeriod = chain.findResonance();
            chain.playTone(signedPeriod);
            signedResponse = chain.lastPeak();
        }

        boolean isUnlikeSignature() {
            int period = chain.findResonance();
            chain.playTone(period);
            int change = Math.abs(chain.lastPeak() - signedResponse);
            return period != signedPeriod || change > signedResponse / 10;
        }

        boolean isWhole() {
            boolean whole = damage >= 0;
            for (int i = 0; i < chain.masses; i++) {
                whole = whole && chain.cracks[i] >= 0 && chain.cracks[i] <= MOST_CRACKS;
            }
            for (int band = 0; band < BANDS; band++) {
                whole = whole && felt[band] >= 0;
            }
            return whole;
        }
    }

    /** A sensor on a mass of a structure. */
    static final class Sensor {
        final Structure structure;
        final int mass;
        final int gain;
        final int limit;
        boolean loose;

        Sensor(Structure structure, int mass, int gain, int limit) {
            this.structure = structure;
            this.mass = mass;
            this.gain = gain;
            this.limit = limit;
        }

        int readingOf(int response) {
            return loose ? 0 : Math.min(limit, gain * response / 100);
        }
    }

    /** What each band is to have, and how far from that it may be. */
    static final class Specification {
        final int[] levels = new int[BANDS];
        final int[] tolerances = {10, 10, 10, 10, 10, 10, 10, 10};
    }

    /** A structure shaken by a specification, held by a loop over its control sensors. */
    static final class Run {
        final Structure structure;
        final Specification specification;
        final char way;
        final Sensor[] controls = new Sensor[MOST_CONTROLS];
        final int[] weights = new int[MOST_CONTROLS];
        int controlCount;
        final int[] drives = new int[BANDS];
        final int[] notches = new int[BANDS];
        final int[] papers = new int[BANDS];
        final char[] events = new char[MOST_EVENTS];
        int eventCount;
        int stage;
        int minutes;
        int abortLine = GREATEST_LINE;
        char state = 'g';

        Run(Structure structure, Specification specification, char way) {
            this.structure = structure;
            this.specification = specification;
            this.way = way;
            for (int band = 0; band < BANDS; band++) {
                drives[band] = FIRST_DRIVE;
            }
        }

        boolean isControlledBy(Sensor sensor) {
            boolean found = false;
            for (int i = 0; i < controlCount; i++) {
                found = found || controls[i] == sensor;
            }
            return found;
        }

        void takeControl(Sensor sensor, int weight) {
            controls[controlCount] = sensor;
            weights[controlCount] = weight;
            controlCount++;
        }

        void keepEvent(char event) {
            if (eventCount < MOST_EVENTS) {
                events[eventCount] = event;
                eventCount++;
            }
        }

        int hasIn(int band) {
            structure.chain.playTone(BAND_PERIODS[band]);
            if (way == 'm') {
                return meanIn(band);
            }
            return way == 'x' ? greatestIn(band) : leastIn(band);
        }

        /** What a control sensor has in a band whose tone was the last one that the chain was played. */
        private int controlIn(int control, int band) {
            Sensor sensor = controls[control];
            int reading = sensor.readingOf(structure.chain.peaks[sensor.mass]);
            return (int) ((long) reading * drives[band] / 100);
        }

        private int meanIn(int band) {
            long sum = 0;
            long parts = 0;
            for (int i = 0; i < controlCount; i++) {
                sum += (long) weights[i] * controlIn(i, band);
                parts += weights[i];
            }
            return parts < 1 ? 0 : (int) (sum / parts);
        }

        private int greatestIn(int band) {
            int most = 0;
            for (int i = 0; i < controlCount; i++) {
                most = Math.max(most, controlIn(i, band));
            }
            return most;
        }

        private int leastIn(int band) {
            int least = controlCount < 1 ? 0 : controlIn(0, band);
            for (int i = 1; i < controlCount; i++) {
                least = Math.min(least, controlIn(i, band));
            }
            return least;
        }

        int dueIn(int band, int atStage) {
            int notched = specification.levels[band] * (100 - notches[band]) / 100;
            // a stage lower halves it; nothing here is below 0, so the shift cuts as a division would
            return notched >> (TOP_STAGE - atStage);
        }

        private int toleratedOf(int band, int due) {
            return specification.tolerances[band] * due / 100;
        }

        boolean isWithin(int band, int has) {
            int due = dueIn(band, stage);
            return Math.abs(has - due) <= toleratedOf(band, due);
        }

        int countWithin() {
            int count = 0;
            for (int band = 0; band < BANDS; band++) {
                if (isWithin(band, hasIn(band))) {
                    count++;
                }
            }
            return count;
        }

        boolean isOverLine() {
            boolean over = false;
            for (int band = 0; band < BANDS; band++) {
                structure.chain.playTone(BAND_PERIODS[band]);
                over = over || greatestIn(band) > abortLine;
            }
            return over;
        }

        void breakOff() {
            state = 'l';
            for (int i = 0; i < controlCount; i++) {
                if (controls[i].loose) {
                    state = 'c';
                }
            }
            keepEvent('b');
        }

        void turn() {
            for (int band = 0; band < BANDS; band++) {
                int has = hasIn(band);
                if (!isWithin(band, has)) {
                    drives[band] = equalised(drives[band], dueIn(band, stage), has);
                }
            }
            minutes++;
            for (int band = 0; band < BANDS; band++) {
                structure.feel(band, drives[band]);
            }
            keepEvent('t');
        }

        private static int equalised(int drive, int due, int has) {
            if (has < 1) {
                return drive;
            }
            long wanted = (long) drive * due / has;
            long most = Math.min(10L * drive, GREATEST_DRIVE);
            return (int) Math.max(1, Math.min(most, wanted));
        }

        void beginAgain() {
            state = 'g';
            stage = 0;
            for (int band = 0; band < BANDS; band++) {
                drives[band] = FIRST_DRIVE;
            }
            keepEvent('u');
        }

        int countOvertested() {
            int count = 0;
            for (int band = 0; band < BANDS; band++) {
                int due = dueIn(band, TOP_STAGE);
                if (structure.felt[band] > due + toleratedOf(band, due)) {
                    count++;
                }
            }
            return count;
        }

        int sumDrives() {
            int sum = 0;
            for (int band = 0; band < BANDS; band++) {
                sum += drives[band];
            }
            return sum;
        }

        boolean isWhole() {
            boolean whole = stage >= 0 && stage <= TOP_STAGE;
            for (int band = 0; band < BANDS; band++) {
                whole = whole && drives[band] >= 1 && drives[band] <= GREATEST_DRIVE;
                whole = whole && notches[band] >= 0 && notches[band] <= MOST_NOTCH;
            }
            return whole;
        }
    }

    /** A row of places, of which it keeps the turns, and the cycles that rain finds in them. */
    static final class Rain {
        // a shock has the longest row: rest, the typed places, and the quiet steps
        final int[] turns = new int[1 + MOST_TYPED + QUIET_STEPS];
        final int[] pile = new int[1 + MOST_TYPED + QUIET_STEPS];
        int turnCount;
        int cycles;
        long fullDamage;
        long halfDamage;

        void clear() {
            turnCount = 0;
        }

        void fall(int place) {
            if (turnCount > 0 && turns[turnCount - 1] == place) {
                return;
            }
            if (turnCount > 1 && goesOn(turns[turnCount - 2], turns[turnCount - 1], place)) {
                turns[turnCount - 1] = place;
            } else if (turnCount < turns.length) {
                turns[turnCount] = place;
                turnCount++;
            }
        }

        private static boolean goesOn(int first, int second, int third) {
            return first < second == second < third;
        }

        void gather() {
            cycles = 0;
            fullDamage = 0;
            halfDamage = 0;
            int height = 0;
            for (int i = 0; i < turnCount; i++) {
                pile[height] = turns[i];
                height = takeCycles(height + 1);
            }
            for (int i = 1; i < height; i++) {
                halfDamage += damageOf(span(i));
            }
        }

        /** Takes the closed cycles from below the top of the pile; answers how high it is then. */
        private int takeCycles(int height) {
            int left = height;
            while (left >= 3 && span(left - 1) >= span(left - 2)) {
                cycles++;
                fullDamage += damageOf(span(left - 2));
                pile[left - 3] = pile[left - 1];
                left -= 2;
            }
            return left;
        }

        /** The span between a place on the pile and the one below it. */
        private int span(int index) {
            return Math.abs(pile[index] - pile[index - 1]);
        }

        private static long damageOf(int span) {
            long part = span / 1000;
            return part * part * part;
        }

        long damage() {
            return fullDamage + halfDamage / 2;
        }
    }
}
