import java.util.Objects;

/** Counts tests; a test is a named body that throws AssertionError where an answer is not the due one. */
final class Check {
    interface Body {
        void run() throws Exception;
    }

    interface Call {
        Object run();
    }

    static int passed = 0;
    static int failed = 0;

    private Check() {
    }

    static void test(String name, Body body) {
        try {
            body.run();
            passed++;
        } catch (Throwable trouble) {
            failed++;
            System.out.println("FAILED " + name + ": " + trouble);
            for (StackTraceElement at : trouble.getStackTrace()) {
                if (!at.getClassName().startsWith("Check")) {
                    System.out.println("    at " + at);
                    break;
                }
            }
        }
    }

    static void same(Object got, Object due) {
        if (!Objects.equals(got, due)) {
            throw new AssertionError("answered " + got + ", due is " + due);
        }
    }

    static void index(Call call) {
        refused(IndexOutOfBoundsException.class, call);
    }

    static void argument(Call call) {
        refused(IllegalArgumentException.class, call);
    }

    static void unsupported(Call call) {
        refused(UnsupportedOperationException.class, call);
    }

    static void illegalState(Call call) {
        refused(IllegalStateException.class, call);
    }

    static void noElement(Call call) {
        refused(java.util.NoSuchElementException.class, call);
    }

    /** The very exception, as a subclass would be one that the machine threw. */
    private static void refused(Class<?> kind, Call call) {
        Object answer;
        try {
            answer = call.run();
        } catch (RuntimeException thrown) {
            same(thrown.getClass(), kind);
            return;
        }
        throw new AssertionError("answered " + answer + ", due is " + kind.getSimpleName());
    }
}
