import java.lang.reflect.InvocationTargetException;
import java.lang.reflect.Method;
import java.lang.reflect.Modifier;
import java.util.HashMap;
import java.util.Map;
import java.util.Random;

/** Long runs of calls, led so that many are taken, answer as the document written a second time does. */
final class ModelTests {
    private static final Map<String, Method> FACE = new HashMap<>();
    private static final Map<String, Method> MODEL = new HashMap<>();
    private static final Map<String, Integer> TAKEN = new HashMap<>();

    private final Random random;
    private final Gatherhouse house = new Gatherhouse();
    private final Model model = new Model();
    private final StringBuilder told = new StringBuilder();
    private int calls = 0;
    private int gathered = 0;

    private ModelTests(int seed) {
        random = new Random(seed);
    }

    static void run() {
        Check.test("1 to 48: long runs answer as the model", ModelTests::longRuns);
        Check.test("1 to 48: each call was taken often in these", ModelTests::allWereTaken);
    }

    private static void longRuns() throws Exception {
        for (Method method : Gatherhouse.class.getDeclaredMethods()) {
            if (Modifier.isPublic(method.getModifiers())) {
                FACE.put(method.getName(), method);
                MODEL.put(method.getName(), Model.class.getMethod(method.getName(), method.getParameterTypes()));
            }
        }
        for (int seed = 0; seed < 200; seed++) {
            new ModelTests(seed).runOnce();
        }
    }

    private static void allWereTaken() {
        for (String name : FACE.keySet()) {
            int taken = TAKEN.getOrDefault(name, 0);
            Check.same(name + " " + (taken >= 20 ? "often" : taken), name + " often");
        }
    }

    private void runOnce() throws Exception {
        open();
        while (calls < 430) {
            work();
            bringIn();
            anneal();
            trade();
        }
        seeAll();
    }

    private int below(int bound) {
        return random.nextInt(bound);
    }

    /** Now and then a number is any one near the bounds, so that calls are refused too. */
    private int near(int fitting) {
        int[] odd = {-1, 0, 1, 2, 7, 8, 9, 10, 16, 30, 31, 60, 61, 99, 100};
        return below(25) == 0 ? odd[below(odd.length)] : fitting;
    }

    private void open() throws Exception {
        int glasses = 1 + below(6);
        for (int i = 0; i < glasses; i++) {
            call("glass", 600 + below(3) * below(100), 1100 - below(3) * below(80), 98 + below(7), below(10));
        }
        for (int i = 0; i < 4; i++) {
            call("pot", near(below(glasses)));
            call("charge", i, 500);
            call("charge", i, 300 + below(250));
        }
        call("agree", below(glasses), below(glasses));
        call("hours", 10 + below(50));
    }

    private void work() throws Exception {
        int pieces = 1 + below(3);
        for (int i = 0; i < pieces && calls < 400; i++) {
            call("gather", near(below(4)), near(10 + below(below(4) == 0 ? 51 : 8)));
            call("pass", 20);
            int acts = 2 + below(14);
            for (int act = 0; act < acts; act++) {
                workOnce();
            }
        }
    }

    private int onPipe() {
        int piece = Math.max(0, gathered - 1 - below(3));
        return near(piece);
    }

    private void workOnce() throws Exception {
        int piece = onPipe();
        int ring = below(3) * below(2);
        switch (below(12)) {
            case 0: case 1:
                call("blow", piece, ring, near(1 + below(8)));
                break;
            case 2:
                call("swing", piece, ring, near(1 + below(12)));
                break;
            case 3:
                call("neck", piece, ring, near(1 + below(3)));
                break;
            case 4: case 5:
                call("split", piece, ring);
                break;
            case 6:
                call("shear", piece);
                break;
            case 7: case 8:
                call("lay", piece, near(below(4)), near(1 + below(3)));
                break;
            case 9:
                call("join", piece, onPipe());
                break;
            case 10:
                call("heat", piece, near(1 + below(30)));
                break;
            default:
                see(piece);
                return;
        }
        call("pass", 1 + below(14));
    }

    private void bringIn() throws Exception {
        for (int piece = 0; piece < gathered; piece++) {
            if (house.state(piece) == 'p') {
                call("crack", piece);
                call("pass", 3 + below(12));
                call("crack", piece);
                call("pass", 3);
            }
        }
        for (int waited = 0; waited < 4; waited++) {
            call("pass", 150);
        }
    }

    private void anneal() throws Exception {
        call("lehr");
        call("drop", near(below(4) == 0 ? 10 + below(60) : 10));
        call("hours", near(1 + below(60)));
        see(below(gathered + 1));
        call("hours", near(60 + below(60)));
        if (below(3) == 0) {
            call("change", near(below(4)));
            call("charge", near(below(4)), 1 + below(500));
            call("hours", 10);
        }
    }

    private void trade() throws Exception {
        for (int i = 0; i < 4; i++) {
            call("cut", near(below(gathered + 1)), below(2), near(1 + below(2)));
        }
        call("set", near(2 + below(2)), near(1 + below(3)), near(below(3) * below(40)));
        if (below(2) == 0) {
            call("sell", near(below(gathered + 1)));
        }
        if (below(3) == 0) {
            call(below(2) == 0 ? "days" : "hours", near(1 + below(25)));
        }
        seeHouse();
    }

    /** What only tells changes nothing, so that it is not counted among the calls of a run. */
    private void see(int piece) throws Exception {
        for (String name : new String[] {"state", "heatOf", "rings", "mass", "height", "layers", "flaws", "strain",
            "isFirst", "isInSet", "price"}) {
            call(name, piece);
        }
        call("low", piece, random.nextBoolean());
        int ring = below(4);
        call("ring", piece, ring, "rhw?".charAt(below(4)));
        call("colour", piece, ring);
        calls -= 13;
    }

    private void seeHouse() throws Exception {
        char role = "gsfb?".charAt(below(5));
        for (String name : new String[] {"time", "day", "lehr", "takings", "checksum", "wholeShare", "meanMass",
            "isSound"}) {
            call(name);
        }
        call("busy", role);
        call("pay", role);
        call("of", near(below(4)), "msta?".charAt(below(5)));
        calls -= 11;
    }

    private void seeAll() throws Exception {
        seeHouse();
        for (int piece = 0; piece < gathered; piece++) {
            see(piece);
        }
        for (int pot = 0; pot < 4; pot++) {
            for (char what : "msta".toCharArray()) {
                call("of", pot, what);
            }
        }
    }

    private void call(String name, Object... arguments) throws Exception {
        calls++;
        Object got = answer(FACE.get(name), house, arguments);
        Object due = answer(MODEL.get(name), model, arguments);
        told.append(name).append(java.util.Arrays.toString(arguments)).append(" = ").append(due).append("; ");
        if (!due.equals(got)) {
            throw new AssertionError("answered " + got + " at the end of: " + told);
        }
        if (!(got instanceof Class)) {
            TAKEN.merge(name, 1, Integer::sum);
            gathered += name.equals("gather") ? 1 : 0;
        }
    }

    /** The answer, or the class of what is thrown. */
    private static Object answer(Method method, Object asked, Object[] arguments) throws Exception {
        try {
            return method.invoke(asked, arguments);
        } catch (InvocationTargetException thrown) {
            return thrown.getCause().getClass();
        }
    }
}
