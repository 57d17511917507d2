import java.lang.reflect.InvocationTargetException;
import java.lang.reflect.Method;
import java.lang.reflect.Modifier;
import java.util.ArrayList;
import java.util.Comparator;
import java.util.List;
import java.util.Random;

/** Runs of calls with arguments in and out of range: what is refused is refused as told, and changes nothing. */
final class RandomTests {
    private static final int CALLS = 512;
    private static final int[] ODD = {-1, 0, 5, 16, 61, 99, 600, 1101, Integer.MIN_VALUE, Integer.MAX_VALUE};
    private static final String LETTERS = "gsfbmtarhwx?";

    private RandomTests() {
    }

    static void run() {
        Check.test("no call throws what it does not tell, and none that throws changes anything",
                RandomTests::wildRuns);
        Check.test("runs of calls that mostly fit stay sound", RandomTests::fittingRuns);
    }

    private static List<Method> face() {
        List<Method> face = new ArrayList<>();
        for (Method method : Gatherhouse.class.getDeclaredMethods()) {
            if (Modifier.isPublic(method.getModifiers())) {
                face.add(method);
            }
        }
        face.sort(Comparator.comparing(Method::getName));
        return face;
    }

    private static void wildRuns() throws Exception {
        for (int seed = 0; seed < 60; seed++) {
            runOf(new Random(seed), 4);
        }
    }

    private static void fittingRuns() throws Exception {
        for (int seed = 1000; seed < 1150; seed++) {
            runOf(new Random(seed), 40);
        }
    }

    private static void runOf(Random random, int oddOneIn) throws Exception {
        List<Method> face = face();
        Gatherhouse house = random.nextBoolean() ? Houses.open() : Houses.ofTwo(100, 100 + random.nextInt(6));
        String before = State.of(house);
        for (int i = 0; i < CALLS; i++) {
            Method method = face.get(random.nextInt(face.size()));
            Object[] arguments = argumentsOf(method, random, oddOneIn);
            boolean isRefused = isRefused(house, method, arguments);
            String after = State.of(house);
            if (isRefused && !after.equals(before)) {
                throw new AssertionError(method.getName() + " threw and changed\n" + before + "\nto\n" + after);
            }
            Check.same(house.isSound(), true);
            before = after;
            if (random.nextInt(3) == 0) {
                house.pass(1 + random.nextInt(12));
                before = State.of(house);
            }
        }
    }

    private static boolean isRefused(Gatherhouse house, Method method, Object[] arguments) throws Exception {
        try {
            method.invoke(house, arguments);
            return false;
        } catch (InvocationTargetException thrown) {
            for (Class<?> told : method.getExceptionTypes()) {
                if (told == thrown.getCause().getClass()) {
                    return true;
                }
            }
            throw new AssertionError(method.getName() + " threw " + thrown.getCause());
        }
    }

    private static Object[] argumentsOf(Method method, Random random, int oddOneIn) {
        Class<?>[] types = method.getParameterTypes();
        Object[] arguments = new Object[types.length];
        for (int i = 0; i < types.length; i++) {
            boolean isOdd = random.nextInt(oddOneIn) == 0;
            if (types[i] == char.class) {
                arguments[i] = isOdd ? (char) random.nextInt(65536) : LETTERS.charAt(random.nextInt(12));
            } else if (types[i] == boolean.class) {
                arguments[i] = random.nextBoolean();
            } else {
                arguments[i] = isOdd ? ODD[random.nextInt(ODD.length)] : fitting(method.getName(), i, random);
            }
        }
        return arguments;
    }

    private static int fitting(String name, int place, Random random) {
        switch (name + place) {
            case "glass0":
                return 600 + random.nextInt(200);
            case "glass1":
                return 900 + random.nextInt(201);
            case "glass2":
                return 97 + random.nextInt(8);
            case "charge1":
                return 1 + random.nextInt(500);
            case "hours0":
                return 1 + random.nextInt(100);
            case "gather1":
                return 10 + random.nextInt(20);
            case "pass0":
                return 1 + random.nextInt(30);
            case "drop0":
                return 10 + random.nextInt(60);
            case "lay1":
                return random.nextInt(3);
            case "heat1":
                return 1 + random.nextInt(60);
            case "blow0": case "swing0": case "neck0": case "split0": case "join0": case "join1":
                return random.nextInt(16);
            default:
                return random.nextInt(place == 0 ? 8 : 6);
        }
    }
}
