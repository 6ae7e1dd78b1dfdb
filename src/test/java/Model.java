import java.math.BigInteger;
import java.util.ArrayDeque;
import java.util.ArrayList;
import java.util.Arrays;
import java.util.List;
import java.util.NoSuchElementException;

/**
 * The document once more, written sentence by sentence and with nothing shared with the class, so that
 * a slip in the one shows against the other. It is slow, and uses the library freely.
 */
public final class Model {
    static final int[] PERIODS = {4, 6, 8, 12, 16, 24, 32, 48};

    static final class Body {
        long mass, told, damper, cracks, place, speed;

        long spring() {
            return told * (10 - cracks) / 10;
        }
    }

    static final class Tower {
        final List<Body> bodies = new ArrayList<>();
        final long[] felt = new long[8];
        long life = 1000000000, damage;
        long[] signature;
        long table;

        void rest() {
            table = 0;
            for (Body b : bodies) {
                b.place = 0;
                b.speed = 0;
            }
        }

        Body last() {
            return bodies.get(bodies.size() - 1);
        }

        void step(long to) {
            long tableSpeed = 16 * (to - table);
            int n = bodies.size();
            long[] oldPlace = new long[n];
            long[] oldSpeed = new long[n];
            for (int i = 0; i < n; i++) {
                oldPlace[i] = bodies.get(i).place;
                oldSpeed[i] = bodies.get(i).speed;
            }
            for (int i = 0; i < n; i++) {
                Body own = bodies.get(i);
                long aheadPlace = i == 0 ? to : oldPlace[i - 1];
                long aheadSpeed = i == 0 ? tableSpeed : oldSpeed[i - 1];
                long force = own.spring() * (aheadPlace - oldPlace[i])
                        + own.damper * (aheadSpeed - oldSpeed[i]);
                if (i + 1 < n) {
                    Body behind = bodies.get(i + 1);
                    force -= behind.spring() * (oldPlace[i] - oldPlace[i + 1]);
                    force -= behind.damper * (oldSpeed[i] - oldSpeed[i + 1]);
                }
                long push = force / (16 * own.mass);
                own.speed = kept(own.speed + push);
                own.place = kept(own.place + own.speed / 16);
            }
            table = to;
        }

        static long kept(long n) {
            if (n > 1000000) {
                return 1000000;
            }
            return n < -1000000 ? -1000000 : n;
        }

        static long tone(int period, int step) {
            int inPeriod = step;
            while (inPeriod >= period) {
                inPeriod -= period;
            }
            return inPeriod < period / 2 ? 1600 : -1600;
        }

        long response(int mass, int period) {
            rest();
            long most = 0;
            for (int s = 0; s < 256; s++) {
                step(tone(period, s));
                most = Math.max(most, Math.abs(bodies.get(mass).place));
            }
            return most;
        }

        long lastResponse(int period) {
            return response(bodies.size() - 1, period);
        }

        int resonance() {
            long[] all = new long[65];
            long most = -1;
            for (int p = 4; p <= 64; p++) {
                all[p] = lastResponse(p);
                most = Math.max(most, all[p]);
            }
            for (int p = 4; p <= 64; p++) {
                if (all[p] == most) {
                    return p;
                }
            }
            throw new AssertionError();
        }
    }

    static final class Probe {
        Tower tower;
        int mass, gain, limit;
        boolean loose;

        long reads(int period) {
            return loose ? 0 : Math.min(limit, gain * tower.response(mass, period) / 100);
        }
    }

    static final class Sheet {
        final int[] level = new int[8];
        final int[] tolerance = new int[8];
    }

    static final class Trial {
        Tower tower;
        Sheet sheet;
        char way;
        final List<Probe> probes = new ArrayList<>();
        final List<Integer> weights = new ArrayList<>();
        final long[] drive = new long[8];
        final int[] notch = new int[8];
        final int[] papers = new int[8];
        int stage, minutes;
        long line = 1000000;
        char state = 'g';
        final StringBuilder events = new StringBuilder();

        long has(Probe probe, int band) {
            return probe.reads(PERIODS[band]) * drive[band] / 100;
        }

        long has(int band) {
            if (probes.isEmpty()) {
                return 0;
            }
            long[] each = new long[probes.size()];
            long sum = 0;
            long weight = 0;
            for (int i = 0; i < each.length; i++) {
                each[i] = has(probes.get(i), band);
                sum += each[i] * weights.get(i);
                weight += weights.get(i);
            }
            if (way == 'm') {
                return sum / weight;
            }
            Arrays.sort(each);
            return way == 'x' ? each[each.length - 1] : each[0];
        }

        long due(int band, int atStage) {
            int[] parts = {8, 4, 2, 1};
            return (long) sheet.level[band] * (100 - notch[band]) / 100 / parts[atStage];
        }

        boolean in(int band) {
            long due = due(band, stage);
            return Math.abs(has(band) - due) <= sheet.tolerance[band] * due / 100;
        }

        int countIn() {
            int n = 0;
            for (int b = 0; b < 8; b++) {
                n += in(b) ? 1 : 0;
            }
            return n;
        }

        void event(char c) {
            if (events.length() < 60) {
                events.append(c);
            }
        }
    }

    final List<Tower> towers = new ArrayList<>();
    final List<Probe> probes = new ArrayList<>();
    final List<Sheet> sheets = new ArrayList<>();
    final List<Trial> trials = new ArrayList<>();
    final List<Long> typed = new ArrayList<>();

    static <T> T at(List<T> list, int index) {
        if (index < 0 || index >= list.size()) {
            throw new IndexOutOfBoundsException();
        }
        return list.get(index);
    }

    static void in(long n, long low, long high) {
        if (n < low || n > high) {
            throw new IllegalArgumentException();
        }
    }

    static void room(List<?> list, int most) {
        if (list.size() >= most) {
            throw new IllegalStateException();
        }
    }

    static void can(boolean can) {
        if (!can) {
            throw new UnsupportedOperationException();
        }
    }

    public int addStructure() {
        room(towers, 6);
        towers.add(new Tower());
        return towers.size() - 1;
    }

    public int addMass(int structure, int mass, int spring, int damper) {
        Tower t = at(towers, structure);
        in(mass, 1, 99);
        in(spring, 1, 9999);
        in(damper, 0, 99);
        room(t.bodies, 4);
        Body b = new Body();
        b.mass = mass;
        b.told = spring;
        b.damper = damper;
        t.bodies.add(b);
        return t.bodies.size();
    }

    public int crack(int structure, int mass) {
        Body b = at(at(towers, structure).bodies, mass);
        if (b.cracks == 9) {
            throw new IllegalStateException();
        }
        return (int) ++b.cracks;
    }

    public int getSpring(int structure, int mass) {
        return (int) at(at(towers, structure).bodies, mass).spring();
    }

    public int getResponse(int structure, int mass, int period) {
        at(at(towers, structure).bodies, mass);
        in(period, 4, 64);
        return (int) towers.get(structure).response(mass, period);
    }

    public int getResonance(int structure) {
        Tower t = at(towers, structure);
        can(!t.bodies.isEmpty());
        return t.resonance();
    }

    public int addSensor(int structure, int mass, int gain, int limit) {
        at(at(towers, structure).bodies, mass);
        in(gain, 50, 150);
        in(limit, 1, 1000000);
        room(probes, 8);
        Probe p = new Probe();
        p.tower = towers.get(structure);
        p.mass = mass;
        p.gain = gain;
        p.limit = limit;
        probes.add(p);
        return probes.size() - 1;
    }

    public boolean setLoose(int sensor, boolean is) {
        Probe p = at(probes, sensor);
        boolean was = p.loose;
        p.loose = is;
        return was;
    }

    public int read(int sensor, int period) {
        Probe p = at(probes, sensor);
        in(period, 4, 64);
        return (int) p.reads(period);
    }

    public int addSpecification() {
        room(sheets, 4);
        Sheet s = new Sheet();
        Arrays.fill(s.tolerance, 10);
        sheets.add(s);
        return sheets.size() - 1;
    }

    public int setLevel(int specification, int band, int level) {
        Sheet s = at(sheets, specification);
        in(band, 0, 7);
        in(level, 0, 99999);
        int before = s.level[band];
        s.level[band] = level;
        return before;
    }

    public int setTolerance(int specification, int band, int hundredths) {
        Sheet s = at(sheets, specification);
        in(band, 0, 7);
        in(hundredths, 1, 50);
        int before = s.tolerance[band];
        s.tolerance[band] = hundredths;
        return before;
    }

    public int addRun(int structure, int specification, char way) {
        Tower t = at(towers, structure);
        Sheet s = at(sheets, specification);
        if ("mxn".indexOf(way) < 0) {
            throw new IllegalArgumentException();
        }
        can(!t.bodies.isEmpty());
        room(trials, 6);
        Trial r = new Trial();
        r.tower = t;
        r.sheet = s;
        r.way = way;
        Arrays.fill(r.drive, 100);
        trials.add(r);
        return trials.size() - 1;
    }

    public int addControl(int run, int sensor, int weight) {
        Trial r = at(trials, run);
        Probe p = at(probes, sensor);
        in(weight, 1, 9);
        can(p.tower == r.tower && !r.probes.contains(p));
        room(r.probes, 4);
        r.probes.add(p);
        r.weights.add(weight);
        return r.probes.size();
    }

    public int getBand(int run, int band) {
        Trial r = at(trials, run);
        in(band, 0, 7);
        return (int) r.has(band);
    }

    public int getDue(int run, int band) {
        Trial r = at(trials, run);
        in(band, 0, 7);
        return (int) r.due(band, r.stage);
    }

    public boolean isInBand(int run, int band) {
        Trial r = at(trials, run);
        in(band, 0, 7);
        return r.in(band);
    }

    public int getDrive(int run, int band) {
        Trial r = at(trials, run);
        in(band, 0, 7);
        return (int) r.drive[band];
    }

    public int turnLoop(int run) {
        Trial r = at(trials, run);
        can(r.state == 'g');
        if (r.minutes == 99) {
            throw new IllegalStateException();
        }
        for (int b = 0; b < 8; b++) {
            for (Probe p : r.probes) {
                if (r.has(p, b) > r.line) {
                    r.state = r.probes.stream().anyMatch(q -> q.loose) ? 'c' : 'l';
                    r.event('b');
                    return 0;
                }
            }
        }
        for (int b = 0; b < 8; b++) {
            long has = r.has(b);
            if (!r.in(b) && has != 0) {
                long next = r.drive[b] * r.due(b, r.stage) / has;
                next = Math.min(next, 10 * r.drive[b]);
                next = Math.min(next, 100000);
                r.drive[b] = Math.max(next, 1);
            }
        }
        r.minutes++;
        r.event('t');
        for (int b = 0; b < 8; b++) {
            long feels = r.tower.lastResponse(PERIODS[b]) * r.drive[b] / 100;
            r.tower.felt[b] = Math.max(r.tower.felt[b], feels);
        }
        return r.countIn();
    }

    public char getState(int run) {
        return at(trials, run).state;
    }

    public int raise(int run) {
        Trial r = at(trials, run);
        can(r.state == 'g' && r.countIn() == 8);
        if (r.stage == 3) {
            throw new IllegalStateException();
        }
        r.event('r');
        return ++r.stage;
    }

    public int takeUp(int run) {
        Trial r = at(trials, run);
        can(r.state != 'g');
        r.state = 'g';
        r.stage = 0;
        Arrays.fill(r.drive, 100);
        r.event('u');
        return r.minutes;
    }

    public int sign(int run, int band) {
        Trial r = at(trials, run);
        in(band, 0, 7);
        if (r.papers[band] == 9) {
            throw new IllegalStateException();
        }
        return ++r.papers[band];
    }

    public int setNotch(int run, int band, int hundredths) {
        Trial r = at(trials, run);
        in(band, 0, 7);
        in(hundredths, 0, 90);
        can(r.papers[band] > 0);
        r.papers[band]--;
        int before = r.notch[band];
        r.notch[band] = hundredths;
        r.event('n');
        return before;
    }

    public int setAbort(int run, int line) {
        Trial r = at(trials, run);
        in(line, 1, 1000000);
        int before = (int) r.line;
        r.line = line;
        return before;
    }

    public int getMinutes(int run) {
        return at(trials, run).minutes;
    }

    public int getFelt(int structure, int band) {
        Tower t = at(towers, structure);
        in(band, 0, 7);
        return (int) t.felt[band];
    }

    public int countOver(int run) {
        Trial r = at(trials, run);
        int n = 0;
        for (int b = 0; b < 8; b++) {
            long due = r.due(b, 3);
            n += r.tower.felt[b] > due + r.sheet.tolerance[b] * due / 100 ? 1 : 0;
        }
        return n;
    }

    public int countEvents(int run) {
        return at(trials, run).events.length();
    }

    public char getEvent(int run, int index) {
        Trial r = at(trials, run);
        if (index < 0 || index >= r.events.length()) {
            throw new NoSuchElementException();
        }
        return r.events.charAt(index);
    }

    public int sweep(int structure, int from, int to, int steps) {
        Tower t = at(towers, structure);
        in(from, 4, 64);
        in(to, 4, 64);
        in(steps, 1, 99);
        can(!t.bodies.isEmpty());
        t.rest();
        List<Long> away = new ArrayList<>();
        List<Integer> periods = new ArrayList<>();
        for (int p = from; from <= to ? p <= to : p >= to; p += from <= to ? 1 : -1) {
            long most = 0;
            for (int s = 0; s < steps; s++) {
                t.step(Tower.tone(p, s));
                most = Math.max(most, Math.abs(t.last().place));
            }
            away.add(most);
            periods.add(p);
        }
        long most = away.stream().mapToLong(a -> a).max().getAsLong();
        return periods.get(away.indexOf(most));
    }

    public int type(int place) {
        in(place, -99999, 99999);
        room(typed, 24);
        typed.add((long) place);
        return typed.size();
    }

    public int wipe() {
        int n = typed.size();
        typed.clear();
        return n;
    }

    List<Long> tablePlaces() {
        List<Long> all = new ArrayList<>(typed);
        for (int i = 0; i < 64; i++) {
            all.add(0L);
        }
        return all;
    }

    public int shock(int structure) {
        Tower t = at(towers, structure);
        can(!t.bodies.isEmpty() && !typed.isEmpty());
        t.rest();
        List<Long> row = new ArrayList<>();
        row.add(0L);
        long most = 0;
        for (long place : tablePlaces()) {
            t.step(place);
            row.add(t.last().place);
            most = Math.max(most, Math.abs(t.last().place));
        }
        t.damage += rain(row)[1];
        if (t.damage > t.life) {
            Body softest = t.bodies.get(0);
            for (Body b : t.bodies) {
                softest = b.spring() < softest.spring() ? b : softest;
            }
            softest.cracks = Math.min(9, softest.cracks + 1);
            t.damage = 0;
        }
        return (int) most;
    }

    public int getSpectrum(int period) {
        in(period, 4, 64);
        can(!typed.isEmpty());
        Tower t = new Tower();
        Body b = new Body();
        b.mass = 16;
        b.told = 159744 / (period * period);
        t.bodies.add(b);
        long most = 0;
        for (long place : tablePlaces()) {
            t.step(place);
            most = Math.max(most, Math.abs(b.place - place));
        }
        return (int) most;
    }

    /** The cycles and the damage of a row. */
    static long[] rain(List<Long> row) {
        List<Long> unlike = new ArrayList<>();
        for (long n : row) {
            if (unlike.isEmpty() || unlike.get(unlike.size() - 1) != n) {
                unlike.add(n);
            }
        }
        List<Long> turns = new ArrayList<>();
        for (int i = 0; i < unlike.size(); i++) {
            boolean end = i == 0 || i == unlike.size() - 1;
            if (end || (unlike.get(i) - unlike.get(i - 1) > 0) != (unlike.get(i + 1) - unlike.get(i) > 0)) {
                turns.add(unlike.get(i));
            }
        }
        long cycles = 0;
        long full = 0;
        ArrayDeque<Long> pile = new ArrayDeque<>();
        for (long n : turns) {
            pile.push(n);
            while (pile.size() >= 3) {
                long top = pile.pop();
                long second = pile.pop();
                long third = pile.pop();
                if (Math.abs(top - second) < Math.abs(second - third)) {
                    pile.push(third);
                    pile.push(second);
                    pile.push(top);
                    break;
                }
                cycles++;
                full += cube(second - third);
                pile.push(top);
            }
        }
        long half = 0;
        List<Long> left = new ArrayList<>(pile);
        for (int i = 1; i < left.size(); i++) {
            half += cube(left.get(i) - left.get(i - 1));
        }
        return new long[] {cycles, full + half / 2};
    }

    static long cube(long span) {
        return BigInteger.valueOf(Math.abs(span) / 1000).pow(3).longValueExact();
    }

    public int countCycles() {
        return (int) rain(typed)[0];
    }

    public long damageOfRow() {
        return rain(typed)[1];
    }

    public int setLife(int structure, int life) {
        Tower t = at(towers, structure);
        in(life, 1, 1000000000);
        int before = (int) t.life;
        t.life = life;
        return before;
    }

    public long getDamage(int structure) {
        return at(towers, structure).damage;
    }

    public int getCracks(int structure) {
        return (int) at(towers, structure).bodies.stream().mapToLong(b -> b.cracks).sum();
    }

    public int takeSignature(int structure) {
        Tower t = at(towers, structure);
        can(!t.bodies.isEmpty());
        int resonance = t.resonance();
        t.signature = new long[] {resonance, t.lastResponse(resonance)};
        return (int) t.signature[1];
    }

    public boolean differs(int structure) {
        Tower t = at(towers, structure);
        if (t.signature == null) {
            throw new NoSuchElementException();
        }
        int resonance = t.resonance();
        long now = t.lastResponse(resonance);
        return resonance != t.signature[0] || Math.abs(now - t.signature[1]) > t.signature[1] / 10;
    }

    public float bandShare(int run) {
        return (float) at(trials, run).countIn() / (float) 8;
    }

    public double meanDrive(int run) {
        return (double) Arrays.stream(at(trials, run).drive).sum() / (double) 8;
    }

    public long checksum() {
        List<Long> parts = new ArrayList<>();
        for (int i = 0; i < towers.size(); i++) {
            parts.add((long) towers.get(i).bodies.size());
            parts.add((long) getCracks(i));
            parts.add(towers.get(i).damage);
        }
        for (Trial r : trials) {
            parts.add((long) r.stage);
            parts.add(Arrays.stream(r.drive).sum());
            parts.add((long) r.minutes);
        }
        long sum = 7;
        for (long part : parts) {
            sum = sum * 31 + part;
        }
        return sum;
    }

    public boolean isSound() {
        return true;
    }
}
