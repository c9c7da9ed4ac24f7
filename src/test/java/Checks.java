import java.util.NoSuchElementException;

/** Counts the answers that are not due, and tells each with the number of its promise. */
final class Checks {
    interface Call {
        Object answer();
    }

    static final Class<?> INDEX = IndexOutOfBoundsException.class;
    static final Class<?> ARGUMENT = IllegalArgumentException.class;
    static final Class<?> UNSUPPORTED = UnsupportedOperationException.class;
    static final Class<?> STATE = IllegalStateException.class;
    static final Class<?> NOTHING = NoSuchElementException.class;

    private int made = 0;
    private int wrong = 0;

    void due(int promise, String what, Object want, Object got) {
        made++;
        if (!want.equals(got)) {
            wrong++;
            System.out.println("promise " + promise + ", " + what + ": answered " + got + ", due is " + want);
        }
    }

    /** The call throws just that, and the sum over all stays as it was. */
    void refused(int promise, String what, CuratorAquarum city, Class<?> want, Call call) {
        long before = city.checksum();
        due(promise, what, want.getName(), outcome(call));
        due(promise, what + ", the sum behind it", before, city.checksum());
    }

    static Object outcome(Call call) {
        try {
            return call.answer();
        } catch (RuntimeException e) {
            return e.getClass().getName() + (isOwn(e) ? "" : ", thrown by the machine");
        }
    }

    /** The library throws exceptions of the same names: only one that the class throws itself counts. */
    private static boolean isOwn(RuntimeException e) {
        StackTraceElement[] trace = e.getStackTrace();
        return trace.length > 0
                && (trace[0].getClassName().startsWith("CuratorAquarum")
                || trace[0].getClassName().startsWith("PlainCity"));
    }

    void end() {
        System.out.println(made + " checks, " + wrong + " wrong");
        if (wrong != 0 || made == 0) {
            System.exit(1);
        }
    }
}
