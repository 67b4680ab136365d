import java.util.NoSuchElementException;
import java.util.function.LongSupplier;

/** Counts and prints the answers that are not as due. */
final class Check {
    static final Class<IllegalArgumentException> ARGUMENT = IllegalArgumentException.class;
    static final Class<IllegalStateException> STATE = IllegalStateException.class;
    static final Class<IndexOutOfBoundsException> INDEX = IndexOutOfBoundsException.class;
    static final Class<NoSuchElementException> ELEMENT = NoSuchElementException.class;
    static final Class<ArithmeticException> ARITHMETIC = ArithmeticException.class;
    static final Class<UnsupportedOperationException> UNSUPPORTED =
            UnsupportedOperationException.class;

    // Far more than any test class takes on a slow machine.
    private static final long MOST_MILLISECONDS = 300_000;

    private static int tests = 0;
    private static int failedTests = 0;
    private static int wrong = 0;
    private static volatile String current = "";

    static {
        Thread watch = new Thread(Check::failLate);
        watch.setDaemon(true);
        watch.start();
    }

    private Check() {
    }

    /** A call that does not end would keep .ci/run from ending: such a test has failed, too. */
    private static void failLate() {
        try {
            Thread.sleep(MOST_MILLISECONDS);
        } catch (InterruptedException e) {
            return;
        }
        System.out.println(current + ": does not end");
        Runtime.getRuntime().halt(1);
    }

    static void test(String name, Runnable body) {
        tests++;
        current = name;
        int before = wrong;
        try {
            body.run();
        } catch (RuntimeException e) {
            report("threw " + e);
        }
        if (wrong > before) {
            failedTests++;
        }
    }

    static void due(String call, long got, long due) {
        if (got != due) {
            report(call + " answered " + got + ", due is " + due);
        }
    }

    static void due(String call, boolean got, boolean due) {
        if (got != due) {
            report(call + " answered " + got + ", due is " + due);
        }
    }

    static void due(String call, double got, double due) {
        if (Double.compare(got, due) != 0) {
            report(call + " answered " + got + ", due is " + due);
        }
    }

    static void due(String call, String got, String due) {
        if (!got.equals(due)) {
            report(call + " answered " + got + ", due is " + due);
        }
    }

    /** The call throws nothing. */
    static void allowed(String call, LongSupplier body) {
        try {
            body.getAsLong();
        } catch (RuntimeException e) {
            report(call + " threw " + e);
        }
    }

    /** The call throws an exception of exactly this class. */
    static void refused(String call, Class<? extends RuntimeException> due, LongSupplier body) {
        try {
            long got = body.getAsLong();
            report(call + " answered " + got + ", due is " + due.getSimpleName());
        } catch (RuntimeException e) {
            if (e.getClass() != due) {
                report(call + " threw " + e + ", due is " + due.getSimpleName());
            }
        }
    }

    static void report(String what) {
        wrong++;
        System.out.println(current + ": " + what);
    }

    static void end() {
        System.out.println((tests - failedTests) + " passed, " + failedTests + " failed");
        if (failedTests > 0) {
            System.exit(1);
        }
    }
}
