import java.util.function.IntUnaryOperator;
import java.util.function.LongSupplier;

/** Compares answers with those that are due and ends a test's main method. */
final class Check {
    private static int wrong = 0;
    private static int compared = 0;
    private static int sentences = 0;
    private static String sentence = "";

    private Check() {
    }

    /** Runs the test of one sentence of the document; what it finds is told with that sentence. */
    static void sentence(String text, Runnable test) {
        sentence = text + ": ";
        sentences++;
        test.run();
        sentence = "";
    }

    static void due(String call, long got, long want) {
        compared++;
        if (got != want) {
            wrong++;
            System.out.println(sentence + call + " answered " + got + ", due is " + want);
        }
    }

    /** x, v, a, b and c. */
    static void state(String after, TankFilter t, int x, int v, int a, int b, int c) {
        due(after + ": level()", t.level(), x);
        due(after + ": flow()", t.flow(), v);
        due(after + ": levelVariance()", t.levelVariance(), a);
        due(after + ": covariance()", t.covariance(), b);
        due(after + ": flowVariance()", t.flowVariance(), c);
    }

    /** The call answers as due and changes nothing at all, no error counter either. */
    static void asks(String call, TankFilter t, long want, LongSupplier answer) {
        long before = t.digest();
        due(call, answer.getAsLong(), want);
        due("digest() after " + call, t.digest(), before);
    }

    /** The call answers the error and changes nothing but that error's counter, which grows by 1. */
    static void fails(String call, TankFilter t, int error, LongSupplier answer) {
        int kind = TankFilter.INVALID - error;
        long[] counts = {t.errorCount(0), t.errorCount(1), t.errorCount(2)};
        long before = t.digest();
        due(call, answer.getAsLong(), error);
        long grown = t.digest() - before;
        // The digest weighs the counter by 31 once for each value that comes after it.
        int valuesAfter = 26 + 2 * t.historyLength() - kind;
        due("digest() grown by " + call, grown, power(31, valuesAfter));
        for (int i = 0; i < 3; i++) {
            due("errorCount(" + i + ") after " + call, t.errorCount(i), counts[i] + (i == kind ? 1 : 0));
        }
    }

    static void invalid(String call, TankFilter t, LongSupplier answer) {
        fails(call, t, TankFilter.INVALID, answer);
    }

    static void rejected(String call, TankFilter t, LongSupplier answer) {
        fails(call, t, TankFilter.REJECTED, answer);
    }

    static void overflows(String call, TankFilter t, LongSupplier answer) {
        fails(call, t, TankFilter.OVERFLOW, answer);
    }

    /** Both ends of the range are taken; what is just outside it is INVALID, and so are int's own ends. */
    static void range(String call, TankFilter t, int low, int high, IntUnaryOperator answer) {
        for (int bad : new int[] {low - 1, high + 1, Integer.MIN_VALUE, Integer.MAX_VALUE}) {
            invalid(call + " of " + bad, t, () -> answer.applyAsInt(bad));
        }
        for (int good : new int[] {low, high}) {
            int before = t.errorCount(0);
            holds(call + " of " + good + " is taken", answer.applyAsInt(good) != TankFilter.INVALID);
            due("errorCount(0) after " + call + " of " + good, t.errorCount(0), before);
        }
    }

    static void holds(String what, boolean condition) {
        due(what, condition ? 1 : 0, 1);
    }

    /** The call answers as due, saves one state, and undo() brings the state before it back. */
    static void undoable(String call, TankFilter t, long want, LongSupplier answer) {
        long before = t.digest();
        due(call, answer.getAsLong(), want);
        due("undo() after " + call, t.undo(), 0);
        due("digest() after undo() of " + call, t.digest(), before);
    }

    static long power(long base, int exponent) {
        long p = 1;
        for (int i = 0; i < exponent; i++) {
            p *= base;
        }
        return p;
    }

    static boolean allRight() {
        return wrong == 0;
    }

    static void end() {
        System.out.println(sentences + " sentences, " + compared + " answers compared, " + wrong + " not as due");
        if (wrong != 0) {
            System.exit(1);
        }
    }
}
