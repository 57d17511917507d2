import java.util.ArrayList;
import java.util.List;
import java.util.Objects;

/** Counts tests; a test is a named body that throws AssertionError where an answer is not the due one. */
final class Check {
    interface Body {
        void run() throws Exception;
    }

    interface Call {
        Object run();
    }

    static int passed = 0;
    static int failed = 0;
    static final List<String> NAMES = new ArrayList<>();

    private Check() {
    }

    static void test(String name, Body body) {
        NAMES.add(name);
        try {
            body.run();
            passed++;
        } catch (Throwable trouble) {
            failed++;
            System.out.println("FAILED " + name + ": " + trouble);
            for (StackTraceElement at : trouble.getStackTrace()) {
                if (!at.getClassName().startsWith("Check")) {
                    System.out.println("    at " + at);
                    break;
                }
            }
        }
    }

    static void same(Object got, Object due) {
        if (!Objects.equals(got, due)) {
            throw new AssertionError("answered " + got + ", due is " + due);
        }
    }

    static void index(Gatherhouse house, Call call) {
        refused(IndexOutOfBoundsException.class, house, call);
    }

    static void argument(Gatherhouse house, Call call) {
        refused(IllegalArgumentException.class, house, call);
    }

    static void unsupported(Gatherhouse house, Call call) {
        refused(UnsupportedOperationException.class, house, call);
    }

    static void illegalState(Gatherhouse house, Call call) {
        refused(IllegalStateException.class, house, call);
    }

    static void noElement(Gatherhouse house, Call call) {
        refused(java.util.NoSuchElementException.class, house, call);
    }

    /** The very exception, as a subclass would be one that the machine threw; and nothing is changed by the call. */
    private static void refused(Class<?> kind, Gatherhouse house, Call call) {
        String before = State.of(house);
        Object answer;
        try {
            answer = call.run();
        } catch (RuntimeException thrown) {
            same(thrown.getClass(), kind);
            same(State.of(house), before);
            return;
        }
        throw new AssertionError("answered " + answer + ", due is " + kind.getSimpleName());
    }
}
