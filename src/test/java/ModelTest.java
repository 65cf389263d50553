import java.lang.reflect.InvocationTargetException;
import java.lang.reflect.Method;
import java.util.Arrays;
import java.util.Comparator;
import java.util.HashMap;
import java.util.Map;

/** Long runs of mixed calls, right and wrong ones, on the class and on PlainCity: the same answers are due. */
public final class ModelTest {
    private static final int RUNS = 400;
    /** What an object is used for at most. */
    private static final int CALLS = 512;
    private static final int MOST_HOURS = 48;
    private static final int LAST_HOUR = 4799;
    private static final int[] EXTREMES = {Integer.MIN_VALUE, Integer.MAX_VALUE, -1, 65536, -65536};
    /** Methods that say much, or change much, are called more often. */
    private static final Map<String, Integer> WEIGHTS = new HashMap<>();
    private static final Map<String, int[][]> RANGES = new HashMap<>();

    private final Check check = new Check("ModelTest");
    private long seed;
    private int left;

    public static void main(String[] args) throws Exception {
        new ModelTest().compare();
    }

    private static void range(String method, int... ends) {
        int[][] ranges = new int[ends.length / 2][];
        for (int i = 0; i < ranges.length; i++) {
            ranges[i] = new int[] {ends[2 * i], ends[2 * i + 1]};
        }
        RANGES.put(method, ranges);
    }

    static {
        range("charge", 0, 3, 1, 99);
        range("setRetorts", 0, 20);
        range("setPressure", 0, 23, 1, 60);
        range("lay", 0, 11, 1, 99, 1, 9, -50, 50);
        range("setAge", 1, 11, 0, 99);
        range("setShut", 1, 11);
        range("setFrozen", 1, 11);
        range("flow", 0, 11);
        range("pressure", 0, 11);
        range("addLamp", 0, 11, 0, 999, 0, 3);
        range("addService", 0, 11, 0, 99, 80, 120);
        range("setDemand", 0, 29, 0, 99);
        range("coins", 0, 29, 1, 99);
        range("cutOff", 0, 29);
        range("pay", 0, 29);
        range("mend", 0, 29);
        range("state", 0, 29);
        range("of", 0, 29);
        range("assign", 0, 5, 0, 29);
        for (String method : new String[] {"unassign", "setIll", "go", "minutes", "shortest", "arrange", "walk"}) {
            range(method, 0, 5);
        }
        range("setCloudy", 0, 199);
        range("moon", 0, 199);
        range("isDue", 0, 4799);
        range("pass", 1, 48);
        range("owes", 0, 3);
        range("fines", 0, 3);
        WEIGHTS.put("go", 12);
        WEIGHTS.put("of", 8);
        WEIGHTS.put("pass", 6);
        WEIGHTS.put("charge", 6);
        WEIGHTS.put("assign", 12);
        WEIGHTS.put("next", 6);
        WEIGHTS.put("checksum", 4);
        WEIGHTS.put("coins", 4);
        WEIGHTS.put("addLighter", 1);
        WEIGHTS.put("setStrike", 1);
        WEIGHTS.put("setIll", 1);
        WEIGHTS.put("addLamp", 3);
        WEIGHTS.put("pause", 1);
    }

    private void compare() throws Exception {
        Method[] methods = Arrays.stream(Lampwick.class.getDeclaredMethods())
                .filter(m -> java.lang.reflect.Modifier.isPublic(m.getModifiers()))
                .sorted(Comparator.comparing(Method::getName))
                .flatMap(m -> java.util.Collections.nCopies(WEIGHTS.getOrDefault(m.getName(), 2), m).stream())
                .toArray(Method[]::new);
        for (int run = 0; run < RUNS; run++) {
            seed = 7919L * run + 1;
            compareRun(methods, run);
        }
        check.end();
    }

    private void compareRun(Method[] methods, int run) throws Exception {
        Lampwick city = new Lampwick();
        PlainCity plain = new PlainCity();
        boolean isGentle = run % 4 != 0;
        left = CALLS;
        if (run % 4 == 3) {
            passDays(city, plain);
        }
        if (isGentle) {
            setUp(city, plain);
        }
        while (left > 0) {
            Method method = methods[pick(methods.length)];
            if (isGentle && isRough(method.getName()) && pick(8) != 0) {
                continue;
            }
            Object[] arguments = arguments(method, plain, isGentle);
            Method same = PlainCity.class.getMethod(method.getName(), method.getParameterTypes());
            Object due = outcome(same, plain, arguments);
            String before = due instanceof Class && pick(20) == 0 ? Digest.of(city) : null;
            Object got = outcome(method, city, arguments);
            left--;
            String call = "run " + run + ", call " + (CALLS - left) + ": " + method.getName() + Arrays.toString(arguments);
            check.judge(call, due, got);
            if (before != null) {
                check.judge(call + " changes nothing", before, Digest.of(city));
            }
        }
    }

    /** To another time of the year, a fifth of these runs to the last hour that there is. */
    private void passDays(Lampwick city, PlainCity plain) {
        int end = Math.min(LAST_HOUR, pick(LAST_HOUR + LAST_HOUR / 4));
        for (int now = 0; now < end; now += MOST_HOURS) {
            int hours = Math.min(MOST_HOURS, end - now);
            check.judge("to " + (now + hours), plain.pass(hours), city.pass(hours));
            left--;
        }
    }

    /** Wide mains, coal and retorts, so that much of the run is lit. */
    private void setUp(Lampwick city, PlainCity plain) {
        left -= 17;
        city.setRetorts(20);
        plain.setRetorts(20);
        for (int i = 0; i < 4; i++) {
            int kind = pick(4);
            city.charge(kind, 99);
            plain.charge(kind, 99);
            city.lay(0, 20 + i, 9 - i, i);
            plain.lay(0, 20 + i, 9 - i, i);
            city.addLamp(i, 50 * i, i);
            plain.addLamp(i, 50 * i, i);
            city.addLighter();
            plain.addLighter();
        }
    }

    private static boolean isRough(String method) {
        return method.equals("setShut") || method.equals("setFrozen") || method.equals("setAge")
                || method.equals("setStrike") || method.equals("setIll") || method.equals("unassign");
    }

    private Object[] arguments(Method method, PlainCity plain, boolean isGentle) {
        Class<?>[] types = method.getParameterTypes();
        Object[] arguments = new Object[types.length];
        int[][] ranges = RANGES.get(method.getName());
        for (int i = 0; i < types.length; i++) {
            if (types[i] == boolean.class) {
                boolean isLighting = isGentle && method.getName().equals("go") && pick(2) == 0;
                arguments[i] = isLighting || pick(2) == 0;
            } else if (types[i] == char.class) {
                arguments[i] = pick(20) == 0 ? (char) pick(65536) : things(method).charAt(pick(things(method).length()));
            } else {
                arguments[i] = number(ranges[i][0], greatest(ranges[i], plain, isGentle));
            }
        }
        return arguments;
    }

    private static String things(Method method) {
        return method.getName().equals("of") ? "bgwmdtac" : "mblv";
    }

    /** Numbers of nodes, fixtures and lighters are mostly of those that there are; gentle runs pass fewer hours at once. */
    private static int greatest(int[] range, PlainCity plain, boolean isGentle) {
        switch (range[1]) {
            case 11:
                return Math.max(range[0], plain.nodes() - 1);
            case 29:
                return Math.max(0, plain.fixtureCount() - 1);
            case 5:
                return Math.max(0, plain.lighters() - 1);
            case 48:
                return isGentle ? 6 : 48;
            default:
                return range[1];
        }
    }

    private int number(int least, int greatest) {
        int chance = pick(40);
        if (chance == 0) {
            return EXTREMES[pick(EXTREMES.length)];
        }
        if (chance < 3) {
            return chance == 1 ? least - 1 : greatest + 1;
        }
        if (chance < 6) {
            return chance == 3 ? greatest : least;
        }
        return least + pick(greatest - least + 1);
    }

    /** A fixed sequence: the same calls in each run of the test. */
    private int pick(int below) {
        seed = seed * 6364136223846793005L + 1442695040888963407L;
        return (int) ((seed >>> 33) % below);
    }

    private static Object outcome(Method method, Object on, Object[] arguments) throws IllegalAccessException {
        try {
            return method.invoke(on, arguments);
        } catch (InvocationTargetException e) {
            return e.getCause().getClass();
        }
    }
}
