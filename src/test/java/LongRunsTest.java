import java.lang.reflect.InvocationTargetException;
import java.lang.reflect.Method;
import java.util.Arrays;
import java.util.HashMap;
import java.util.Map;
import java.util.Random;

/**
 * Runs of 512 calls, as many as an object is used for, each answered alike by
 * the class and the model: DAY near 999, more ACTS than can be undone, a full
 * tape and a full house, numbers of the whole range of an int.
 */
public final class LongRunsTest {
    private static final int CALLS = 512;
    private static final int MIN = Integer.MIN_VALUE, MAX = Integer.MAX_VALUE;
    private static final int[] WIDE = {MIN, MIN + 1, MIN + 7, -65536, -256, -129, -100, -41, -2, -1, 0, 1, 2, 3, 4, 5, 6,
        7, 8, 10, 11, 12, 13, 20, 24, 25, 30, 31, 39, 40, 41, 59, 60, 61, 98, 99, 100, 127, 128, 255, 256, 999, 1000,
        32767, 32768, 65535, 65536, 999999, 1000000, MAX - 60, MAX - 40, MAX - 1, MAX};
    private static final String[] NAMES = {"row", "set", "copy", "drop", "days", "sell", "bind", "give", "wolves", "undo",
        "right", "heir", "worth", "ahead", "whose", "eats", "starves", "richest", "price", "cheap", "sales", "surplus",
        "bonds", "barter", "whatSold", "who", "claims", "peace", "prowl", "drawn", "image", "restore", "kind", "as", "ask",
        "trace", "count", "status", "fault", "feed", "house"};
    private static final String[] ACTS = {"days", "sell", "bind", "give", "wolves", "undo", "sell", "count", "claims"};
    private static final Check CHECK = new Check();
    private static final Map<String, Method> OF_CLASS = new HashMap<>(), OF_MODEL = new HashMap<>();

    private final SoupRights x = new SoupRights();
    private final SoupModel m = new SoupModel();
    private final Random random;
    private final String run;
    private int calls;
    private String latest = "";

    private LongRunsTest(String run, long seed) {
        this.run = run + " " + seed;
        random = new Random(seed);
    }

    public static void main(String[] args) throws ReflectiveOperationException {
        keep(SoupRights.class, OF_CLASS);
        keep(SoupModel.class, OF_MODEL);
        for (int seed = 0; seed < 60 && CHECK.wrong() < 20; seed++) {
            new LongRunsTest("near DAY 999", seed).nearTheLastDay();
            new LongRunsTest("many ACTS", seed).manyActs();
            new LongRunsTest("full tapes", seed).fullTapes();
            new LongRunsTest("wide numbers", seed).wideNumbers();
            new LongRunsTest("wide numbers, no house", seed).wideNumbersOfNoHouse();
        }
        CHECK.end("LongRunsTest");
    }

    private static void keep(Class<?> c, Map<String, Method> methods) {
        for (Method each : c.getDeclaredMethods()) {
            if (Arrays.stream(each.getParameterTypes()).allMatch(t -> t == int.class)) {
                methods.put(each.getName(), each);
            }
        }
    }

    private static long on(Object one, Method method, int[] a) throws ReflectiveOperationException {
        Object[] boxed = Arrays.stream(a).boxed().toArray();
        try {
            return ((Number) method.invoke(one, boxed)).longValue();
        } catch (InvocationTargetException thrown) {
            throw new IllegalStateException(method.getName() + Arrays.toString(a), thrown.getCause());
        }
    }

    private long call(String name, int... a) throws ReflectiveOperationException {
        calls++;
        long got = on(x, OF_CLASS.get(name), a);
        CHECK.due(run + ", call " + calls + ", " + name + Arrays.toString(a) + " behind " + latest,
            got, on(m, OF_MODEL.get(name), a));
        latest = name + Arrays.toString(a);
        return got;
    }

    private boolean goesOn() {
        return calls < CALLS && CHECK.wrong() < 20;
    }

    private void tell(String text) throws ReflectiveOperationException {
        for (int i = 0; i < text.length(); i++) {
            call("feed", text.charAt(i));
        }
        call("house");
    }

    /** Five HEIRS and seven RIGHTS, in at most 100 bytes. */
    private String fullHouse() {
        StringBuilder text = new StringBuilder();
        for (int i = 0; i < 5; i++) {
            text.append('h').append(random.nextInt(61)).append(',').append(random.nextInt(21)).append(';');
        }
        for (int i = 0; i < 7; i++) {
            text.append("ntflp".charAt(random.nextInt(5))).append(1 + random.nextInt(20)).append(',')
                .append(random.nextInt(61)).append(',').append(random.nextInt(5)).append(';');
        }
        return text.toString();
    }

    private int within(String name, int k) {
        int right = random.nextInt(Math.max(m.count(2), 1));
        int heir = random.nextInt(Math.max(m.count(1), 1));
        switch (name + k) {
            case "row0": case "set0": case "copy0": case "copy2": case "drop0": case "whatSold0": case "who1":
                return random.nextInt(8);
            case "row1": case "heir1":
                return random.nextInt(3);
            case "row2":
                return random.nextInt(42) - 1;
            case "set1": case "copy1": case "copy3": case "copy4":
                return random.nextInt(20);
            case "set2":
                return random.nextInt(61);
            case "days0":
                return 1 + random.nextInt(24);
            case "sell2":
                return 1 + random.nextInt(20);
            case "give2":
                return 1 + random.nextInt(9);
            case "sell1": case "give0": case "give1": case "wolves0": case "heir0": case "worth1": case "ahead0":
            case "eats0": case "starves0": case "surplus1": case "bonds0": case "peace0": case "peace1":
                return heir;
            case "sell0": case "bind0": case "right0": case "worth0": case "whose0": case "price0": case "cheap0":
            case "surplus0": case "who0": case "kind0": case "as0": case "ask0":
                return right;
            case "right1":
                return random.nextInt(5);
            case "ahead1": case "whose1": case "eats1": case "richest0": case "drawn0":
                return random.nextInt(61);
            case "cheap1":
                return random.nextInt(31);
            case "barter0":
                return 1 + random.nextInt(random.nextInt(6) == 0 ? 3 : 2);
            case "whatSold1": case "who2":
                return random.nextInt(4);
            case "who3":
                return 1 + random.nextInt(12);
            case "prowl0": case "as1":
                return random.nextInt(6);
            case "prowl1":
                return random.nextInt(11);
            case "drawn1":
                return 1 + random.nextInt(999999);
            case "trace0": case "count0":
                return random.nextInt(8);
            case "feed0":
                return random.nextInt(256);
            default:
                return random.nextInt(2);
        }
    }

    private void drawnCall(String[] names, int odd) throws ReflectiveOperationException {
        String name = names[random.nextInt(names.length)];
        int[] a = new int[OF_CLASS.get(name).getParameterCount()];
        for (int k = 0; k < a.length; k++) {
            a[k] = random.nextInt(100) < odd ? WIDE[random.nextInt(WIDE.length)] : within(name, k);
        }
        if (name.equals("house") && random.nextInt(4) != 0) {
            return;
        }
        call(name, a);
    }

    private void nearTheLastDay() throws ReflectiveOperationException {
        tell(fullHouse());
        while (goesOn() && m.count(3) < 940) {
            call("days", 24);
            drawnCall(NAMES, 2);
        }
        while (goesOn()) {
            if (random.nextInt(6) == 0) {
                call("days", 1 + random.nextInt(random.nextBoolean() ? 3 : 24));
            } else {
                drawnCall(random.nextInt(3) == 0 ? ACTS : NAMES, 2);
            }
            call("count", 3);
        }
    }

    private void manyActs() throws ReflectiveOperationException {
        tell(fullHouse());
        while (goesOn()) {
            int sale = m.sales(1);
            if (sale >= 0 && random.nextInt(3) == 0) {
                call("sell", sale / 10, sale % 10, m.price(sale / 10));
            } else if (random.nextInt(40) == 0) {
                for (int i = 0; i < 30 && goesOn(); i++) {
                    call("undo");
                    call("heir", random.nextInt(5), random.nextInt(3));
                }
            } else if (random.nextInt(3) == 0) {
                call("days", 1);
            } else {
                drawnCall(ACTS, 1);
            }
        }
    }

    private void fullTapes() throws ReflectiveOperationException {
        while (goesOn()) {
            StringBuilder text = new StringBuilder(fullHouse());
            while (text.length() < 102) {
                // a NUMBER of one figure may have one more ahead
                int at = text.lastIndexOf(",", random.nextInt(text.length()));
                text.insert(Math.max(at, 0) + 1, '0');
            }
            if (random.nextBoolean()) {
                text = new StringBuilder(fullHouse());
            }
            tell(text.toString());
            call("fault");
            call("count", 7);
            for (int i = 0; i < 20 && goesOn(); i++) {
                drawnCall(NAMES, 3);
            }
        }
    }

    private void wideNumbers() throws ReflectiveOperationException {
        tell(fullHouse());
        while (goesOn()) {
            drawnCall(NAMES, 35);
            call("status");
        }
    }

    private void wideNumbersOfNoHouse() throws ReflectiveOperationException {
        while (goesOn()) {
            drawnCall(NAMES, 50);
            call("status");
        }
    }
}
