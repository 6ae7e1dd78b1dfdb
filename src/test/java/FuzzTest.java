import java.lang.reflect.InvocationTargetException;
import java.lang.reflect.Method;
import java.lang.reflect.Modifier;
import java.util.Arrays;
import java.util.Comparator;
import java.util.HashMap;
import java.util.List;
import java.util.Map;
import java.util.Random;
import java.util.TreeMap;

/** All promises at once: rows of at most 512 calls, each answered by the class and by the model. */
final class FuzzTest {
    private static final Check CHECK = new Check("FuzzTest");
    private static final int MOST_CALLS = 512;
    private static final int[] EDGES = {
        Integer.MIN_VALUE, Integer.MIN_VALUE + 1, -1000001, -100000, -99999, -1, 0, 1, 2, 3, 4, 5, 6, 7, 8, 9, 10,
        49, 50, 51, 63, 64, 65, 90, 91, 98, 99, 100, 149, 150, 151, 9999, 10000, 99999, 100000, 999999, 1000000,
        1000001, 999999999, 1000000000, 1000000001, Integer.MAX_VALUE
    };
    /** What plays all periods: it is made less often. */
    private static final List<String> DEAR = List.of("takeSignature", "getResonance", "differs");
    /** What rows must come to: answers that are rare, and all exceptions but those of numbers. */
    private static final String[] NEEDED = {
        "addStructure IllegalStateException", "addMass IllegalStateException", "crack IllegalStateException", "crack 9",
        "getResonance UnsupportedOperationException", "addSensor IllegalStateException", "addSensor 7",
        "addSpecification IllegalStateException", "addRun UnsupportedOperationException", "addRun 5",
        "addRun IllegalStateException", "addControl UnsupportedOperationException", "addControl IllegalStateException",
        "isInBand true", "isInBand false", "turnLoop UnsupportedOperationException", "turnLoop IllegalStateException",
        "turnLoop 0", "turnLoop 8", "getState c", "getState l", "raise UnsupportedOperationException",
        "raise IllegalStateException", "raise 3", "takeUp UnsupportedOperationException", "sign IllegalStateException",
        "setNotch UnsupportedOperationException", "setNotch 90", "getMinutes 99", "countOver 0", "countOver 8",
        "countEvents 60", "getEvent t", "getEvent n", "getEvent r", "getEvent b", "getEvent u",
        "getEvent NoSuchElementException", "sweep UnsupportedOperationException", "type IllegalStateException",
        "shock UnsupportedOperationException", "getSpectrum UnsupportedOperationException",
        "takeSignature UnsupportedOperationException", "differs true", "differs false", "differs NoSuchElementException",
        "bandShare 0.0", "bandShare 1.0", "isSound true"
    };
    private static final Method[] CALLS = calls();
    private static final Map<String, Method> MODEL_CALLS = modelCalls();
    private static final TreeMap<String, Integer> SEEN = new TreeMap<>();

    private final Random random;
    private final int rudeness;
    private final boolean atBounds;
    private final Shakerhall lab = new Shakerhall();
    private final Model model = new Model();
    private final StringBuilder log = new StringBuilder();
    private int made;
    private boolean broken;

    private FuzzTest(long seed) {
        random = new Random(seed);
        rudeness = (int) (seed % 4) * 8;
        atBounds = seed % 5 == 4;
    }

    public static void main(String[] args) {
        int rows = args.length > 1 ? Integer.parseInt(args[1]) : 400;
        for (int seed = 0; seed < rows; seed++) {
            FuzzTest row = new FuzzTest(seed);
            row.go(seed % 5);
            if (row.broken) {
                System.out.println("row " + seed + ":\n" + row.log);
                break;
            }
        }
        for (String needed : NEEDED) {
            CHECK.yes("some row comes to " + needed, SEEN.containsKey(needed));
        }
        CHECK.end();
    }

    private static Method[] calls() {
        Method[] all = Arrays.stream(Shakerhall.class.getDeclaredMethods())
                .filter(m -> Modifier.isPublic(m.getModifiers())).toArray(Method[]::new);
        Arrays.sort(all, Comparator.comparing(Method::getName));
        return all;
    }

    private static Map<String, Method> modelCalls() {
        Map<String, Method> all = new HashMap<>();
        for (Method call : CALLS) {
            try {
                all.put(call.getName(), Model.class.getMethod(call.getName(), call.getParameterTypes()));
            } catch (NoSuchMethodException missing) {
                throw new IllegalStateException("the model lacks " + call);
            }
        }
        return all;
    }

    private void go(int kind) {
        if (kind == 3) {
            share();
        } else if (kind != 0) {
            build();
        }
        if (kind == 2) {
            driveOneRun();
        }
        // each row has calls that it makes more often: limits that few rows would come to by chance
        Method[] often = new Method[5];
        for (int i = 0; i < often.length; i++) {
            often[i] = CALLS[random.nextInt(CALLS.length)];
        }
        while (made < MOST_CALLS && !broken) {
            Method[] from = random.nextBoolean() ? often : CALLS;
            Method call = from[random.nextInt(from.length)];
            if (random.nextInt(4) != 0 && DEAR.contains(call.getName())) {
                continue;
            }
            make(call, randomArguments(call));
        }
    }

    private void build() {
        int structures = 1 + random.nextInt(3);
        for (int s = 0; s < structures; s++) {
            call("addStructure");
            int masses = 1 + random.nextInt(4);
            for (int m = 0; m < masses; m++) {
                if (atBounds) {
                    call("addMass", s, goodNumber("addMass", 1), goodNumber("addMass", 2), goodNumber("addMass", 3));
                } else {
                    call("addMass", s, 1 + random.nextInt(random.nextInt(3) == 0 ? 6 : 99),
                            1 + random.nextInt(random.nextBoolean() ? 60 : 9999), random.nextInt(100));
                }
                for (int more = random.nextInt(2); more >= 0; more--) {
                    call("addSensor", s, m, goodNumber("addSensor", 2), goodNumber("addSensor", 3));
                }
            }
        }
        call("addSpecification");
        for (int b = 0; b < 8; b++) {
            call("setLevel", 0, b, random.nextBoolean() ? goodNumber("setLevel", 2) : random.nextInt(3000));
            call("setTolerance", 0, b, goodNumber("setTolerance", 2));
        }
        for (int s = 0; s < structures; s++) {
            call("addRun", s, 0, "mxn".charAt(random.nextInt(3)));
        }
        for (int i = 0; i < 14; i++) {
            call("addControl", random.nextInt(structures), random.nextInt(8), goodNumber("addControl", 2));
        }
    }

    /** Two structures alike, four runs of the first one and one of the other, and sensors that control several. */
    private void share() {
        for (int s = 0; s < 2; s++) {
            call("addStructure");
            call("addMass", s, 10, 500, 5);
            call("addSpecification");
        }
        for (int i = 0; i < 8; i++) {
            call("addSensor", i / 5, 0, goodNumber("addSensor", 2), 100 + random.nextInt(20000));
            call("setLevel", 0, i, 2000 + random.nextInt(400));
            call("setLevel", 1, i, random.nextInt(20000));
            call("setTolerance", 0, i, 50);
        }
        for (int run = 0; run < 5; run++) {
            call("addRun", run / 4, random.nextInt(2), "mxn".charAt(random.nextInt(3)));
            for (int i = 0; i < 3; i++) {
                call("addControl", run, random.nextInt(8), goodNumber("addControl", 2));
            }
        }
        for (int i = 0; i < 40; i++) {
            int run = random.nextInt(5);
            for (int turns = random.nextInt(5); turns >= 0; turns--) {
                call("turnLoop", run);
            }
            call("raise", run);
            call("countOver", random.nextInt(5));
            happen(run);
        }
    }

    /** One of the things that are felt by other runs than the one that is asked for. */
    private void happen(int run) {
        int structure = random.nextInt(2);
        switch (random.nextInt(8)) {
            case 0:
                call("addMass", structure, 4, 300, 2);
                break;
            case 1:
                call("crack", structure, 0);
                call("differs", structure);
                break;
            case 2:
                call("setLoose", random.nextInt(8), random.nextBoolean());
                break;
            case 3:
                call("setAbort", run, 1 + random.nextInt(random.nextBoolean() ? 2000 : 1000000));
                break;
            case 4:
                call("takeUp", run);
                break;
            case 5:
                call("takeSignature", structure);
                break;
            case 6:
                call("setLevel", random.nextInt(2), random.nextInt(8), random.nextInt(20000));
                break;
            default:
                call("sign", run, 0);
                call("setNotch", run, 0, goodNumber("setNotch", 2));
        }
    }

    /** A run at whose top stage a loop that works can come, and whose minutes can come to an end. */
    private void driveOneRun() {
        int turns = random.nextBoolean() ? 20 : 105;
        for (int b = 0; b < 8; b++) {
            call("setTolerance", 0, b, 50);
        }
        for (int i = 0; i < turns && !broken; i++) {
            call("turnLoop", 0);
            if (random.nextInt(turns / 10) == 0) {
                call("raise", 0);
                call("countOver", 0);
                call("sign", 0, random.nextInt(8));
                call("setNotch", 0, random.nextInt(8), random.nextInt(91));
                call("bandShare", 0);
                call("isInBand", 0, random.nextInt(8));
            }
        }
        call("raise", 0);
        call("raise", 0);
        call("setLoose", 0, random.nextBoolean());
        call("setAbort", 0, 1 + random.nextInt(100));
        call("turnLoop", 0);
        call("getState", 0);
        call("takeUp", 0);
    }

    private void call(String name, Object... arguments) {
        for (Method call : CALLS) {
            if (call.getName().equals(name)) {
                make(call, arguments);
            }
        }
    }

    private Object[] randomArguments(Method call) {
        Class<?>[] kinds = call.getParameterTypes();
        Object[] arguments = new Object[kinds.length];
        for (int i = 0; i < kinds.length; i++) {
            arguments[i] = randomArgument(call.getName(), kinds[i], i);
        }
        return arguments;
    }

    private Object randomArgument(String name, Class<?> kind, int index) {
        if (kind == boolean.class) {
            return random.nextBoolean();
        }
        if (kind == char.class) {
            return random.nextInt(100) < rudeness ? (char) random.nextInt(256) : "mxn".charAt(random.nextInt(3));
        }
        if (random.nextInt(100) < rudeness) {
            return random.nextInt(10) == 0 ? random.nextInt() : EDGES[random.nextInt(EDGES.length)];
        }
        return goodNumber(name, index);
    }

    private int goodNumber(String name, int index) {
        int[] range = range(name + index);
        if (atBounds && random.nextInt(4) != 0) {
            return range[random.nextInt(2)];
        }
        switch (name + index) {
            case "type0":
                return random.nextBoolean() ? range[random.nextInt(2)] : random.nextInt(199999) - 99999;
            case "setLife1":
                return 1 + random.nextInt(random.nextBoolean() ? 1000 : 1000000000);
            case "sign1": case "setNotch1":
                return random.nextInt(random.nextBoolean() ? 2 : 8);
            default:
                return range[0] + random.nextInt(range[1] - range[0] + 1);
        }
    }

    /** The least and the greatest of what a call takes, or of what there may be of such things. */
    private static int[] range(String argument) {
        switch (argument) {
            case "type0":
                return new int[] {-99999, 99999};
            case "getResponse2": case "read1": case "sweep1": case "sweep2": case "getSpectrum0":
                return new int[] {4, 64};
            case "sweep3": case "addMass1":
                return new int[] {1, 99};
            case "addMass2":
                return new int[] {1, 9999};
            case "addMass3":
                return new int[] {0, 99};
            case "addSensor2":
                return new int[] {50, 150};
            case "addSensor3": case "setAbort1":
                return new int[] {1, 1000000};
            case "setLevel2":
                return new int[] {0, 99999};
            case "setTolerance2":
                return new int[] {1, 50};
            case "setNotch2":
                return new int[] {0, 90};
            case "setLife1":
                return new int[] {1, 1000000000};
            case "getEvent1":
                return new int[] {0, 61};
            case "addControl2":
                return new int[] {1, 9};
            case "addRun1": case "setLevel0": case "setTolerance0":
                return new int[] {0, 1};
            case "crack1": case "getSpring1": case "addSensor1": case "getResponse1":
                return new int[] {0, 3};
            case "addControl1": case "setLoose0": case "read0":
                return new int[] {0, 7};
            default:
                return new int[] {0, argument.endsWith("0") ? 2 : 7};
        }
    }

    private void make(Method call, Object[] arguments) {
        if (made >= MOST_CALLS || broken) {
            return;
        }
        made++;
        String got = answer(call, lab, arguments);
        String due = answer(MODEL_CALLS.get(call.getName()), model, arguments);
        String told = call.getName() + Arrays.toString(arguments);
        CHECK.same(told, due, got);
        log.append(told).append(" = ").append(got).append('\n');
        SEEN.merge(call.getName() + " " + got.replaceAll("throws .*\\.", ""), 1, Integer::sum);
        broken = !due.equals(got);
    }

    private static String answer(Method call, Object target, Object[] arguments) {
        try {
            return call.invoke(target, arguments).toString();
        } catch (InvocationTargetException thrown) {
            return Check.told(thrown.getCause());
        } catch (IllegalAccessException closed) {
            throw new IllegalStateException(closed);
        }
    }
}
