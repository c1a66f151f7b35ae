import java.util.NoSuchElementException;

/** Compares answers with those that are due, and ends a test with 1 if one was another. */
final class Check {
    static final Class<IllegalArgumentException> ILLEGAL = IllegalArgumentException.class;
    static final Class<IllegalStateException> STATE = IllegalStateException.class;
    static final Class<IndexOutOfBoundsException> BOUNDS = IndexOutOfBoundsException.class;
    static final Class<NoSuchElementException> NO_SUCH = NoSuchElementException.class;
    static final Class<ArithmeticException> ARITHMETIC = ArithmeticException.class;
    static final Class<UnsupportedOperationException> REFUSED =
            UnsupportedOperationException.class;

    private static int wrong = 0;
    private static int done = 0;

    private Check() { }

    /** A call that is expected to throw. */
    interface Call {
        Object make();
    }

    static void same(String what, Object got, Object due) {
        done++;
        if (!got.equals(due)) {
            wrong++;
            System.out.println(what + " answered " + got + ", due is " + due);
        }
    }

    /** The exception has to be just of this class, and thrown by the class itself. */
    static void fails(String what, Class<? extends RuntimeException> due, Call call) {
        done++;
        Object got;
        try {
            got = call.make();
        } catch (RuntimeException e) {
            StackTraceElement[] trace = e.getStackTrace();
            boolean isOwn = trace.length > 0 && trace[0].getClassName().startsWith("GristGraph");
            if (e.getClass() == due && isOwn) {
                return;
            }
            got = e;
        }
        wrong++;
        System.out.println(what + " gave " + got + ", due is " + due.getSimpleName());
    }

    /** The call has to answer, whatever it is. */
    static void passes(String what, Call call) {
        done++;
        try {
            call.make();
        } catch (RuntimeException e) {
            wrong++;
            System.out.println(what + " gave " + e + ", due is an answer");
        }
    }

    static void end() {
        System.out.println(done + " checks, " + wrong + " wrong");
        if (wrong > 0) {
            System.exit(1);
        }
    }
}
