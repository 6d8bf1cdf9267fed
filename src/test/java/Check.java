import java.util.function.LongSupplier;

/** Compares answers with those that are due and ends a test's main method. */
final class Check {
    private static int wrong = 0;
    private static int compared = 0;

    private Check() {
    }

    static void due(String call, long got, long want) {
        compared++;
        if (got != want) {
            wrong++;
            System.out.println(call + " answered " + got + ", due is " + want);
        }
    }

    /** x, v, a, b and c. */
    static void state(String after, TankFilter t, int x, int v, int a, int b, int c) {
        due(after + ": level()", t.level(), x);
        due(after + ": flow()", t.flow(), v);
        due(after + ": levelVariance()", t.levelVariance(), a);
        due(after + ": covariance()", t.covariance(), b);
        due(after + ": flowVariance()", t.flowVariance(), c);
    }

    /** The call answers as due and changes nothing at all, no error counter either. */
    static void asks(String call, TankFilter t, long want, LongSupplier answer) {
        long before = t.digest();
        due(call, answer.getAsLong(), want);
        due("digest() after " + call, t.digest(), before);
    }

    /** The call answers the error and changes nothing but that error's counter, which grows by 1. */
    static void fails(String call, TankFilter t, int error, LongSupplier answer) {
        int kind = TankFilter.INVALID - error;
        long[] counts = {t.errorCount(0), t.errorCount(1), t.errorCount(2)};
        long before = t.digest();
        due(call, answer.getAsLong(), error);
        long grown = t.digest() - before;
        // The digest weighs the counter by 31 once for each value that comes after it.
        int valuesAfter = 26 + 2 * t.historyLength() - kind;
        due("digest() grown by " + call, grown, power(31, valuesAfter));
        for (int i = 0; i < 3; i++) {
            due("errorCount(" + i + ") after " + call, t.errorCount(i), counts[i] + (i == kind ? 1 : 0));
        }
    }

    static void invalid(String call, TankFilter t, LongSupplier answer) {
        fails(call, t, TankFilter.INVALID, answer);
    }

    /** The call answers as due, saves one state, and undo() brings the state before it back. */
    static void undoable(String call, TankFilter t, long want, LongSupplier answer) {
        long before = t.digest();
        due(call, answer.getAsLong(), want);
        due("undo() after " + call, t.undo(), 0);
        due("digest() after undo() of " + call, t.digest(), before);
    }

    static long power(long base, int exponent) {
        long p = 1;
        for (int i = 0; i < exponent; i++) {
            p *= base;
        }
        return p;
    }

    static boolean allRight() {
        return wrong == 0;
    }

    static void end() {
        System.out.println(compared + " answers compared, " + wrong + " not as due");
        if (wrong != 0) {
            System.exit(1);
        }
    }
}
