/** Promises 21 to 23: forecasts. */
public final class ForecastTest {
    private static final int MIN = Integer.MIN_VALUE;
    private static final int MAX = Integer.MAX_VALUE;

    public static void main(String[] args) {
        promise21Forecast();
        promise21Overflow();
        promise22ForecastVariance();
        promise22Overflow();
        promise23StepsTo();
        promise23StepsDown();
        promise23OverflowBefore();
        promise23WrongTarget();
        Check.end();
    }

    private static TankFilter steadyFlow(int level, int flow) {
        TankFilter t = new TankFilter();
        t.setProcessNoise(0, 0);
        t.reset(level, flow, 0, 0);
        return t;
    }

    /** A filter whose level is the limit. */
    private static TankFilter atTheLimit() {
        TankFilter t = steadyFlow(40960000, 4096000);
        for (int i = 1; i <= 117; i++) {
            t.predict(4096000);
        }
        t.predict(-3520000);
        Check.due("level()", t.level(), 1000000000);
        return t;
    }

    private static void promise21Forecast() {
        TankFilter t = steadyFlow(50, -7);
        Check.asks("forecast(0)", t, 50, () -> t.forecast(0));
        Check.asks("forecast(1)", t, 43, () -> t.forecast(1));
        Check.asks("forecast(3)", t, 29, () -> t.forecast(3));
        Check.asks("forecast(100)", t, -650, () -> t.forecast(100));
        for (int bad : new int[] {-1, 101, MIN, MAX}) {
            Check.invalid("forecast(" + bad + ")", t, () -> t.forecast(bad));
        }
        t.predict(10);
        Check.asks("forecast(2) has no inflow", t, 39, () -> t.forecast(2));
    }

    private static void promise21Overflow() {
        TankFilter t = atTheLimit();
        Check.asks("forecast(0) at the limit", t, 1000000000, () -> t.forecast(0));
        Check.fails("forecast(1) above the limit", t, TankFilter.OVERFLOW, () -> t.forecast(1));
        Check.fails("INVALID before OVERFLOW", t, TankFilter.INVALID, () -> t.forecast(101));
        TankFilter uncertain = new TankFilter();
        uncertain.setProcessNoise(0, 0);
        uncertain.reset(5, 1, 40960000, 40960000);
        // a is (1 + n * n) * 40960000 after n predictions.
        Check.asks("forecast(4)", uncertain, 9, () -> uncertain.forecast(4));
        Check.fails("forecast(5)", uncertain, TankFilter.OVERFLOW, () -> uncertain.forecast(5));
    }

    private static void promise22ForecastVariance() {
        TankFilter t = new TankFilter();
        t.setProcessNoise(5, 7);
        t.reset(0, 0, 10, 3);
        Check.asks("forecastVariance(0)", t, 10, () -> t.forecastVariance(0));
        Check.asks("forecastVariance(1)", t, 18, () -> t.forecastVariance(1));
        Check.asks("forecastVariance(2)", t, 39, () -> t.forecastVariance(2));
        Check.asks("forecastVariance(100)", t, varianceAfter(100, 10, 3, 5, 7), () -> t.forecastVariance(100));
        for (int bad : new int[] {-1, 101, MIN, MAX}) {
            Check.invalid("forecastVariance(" + bad + ")", t, () -> t.forecastVariance(bad));
        }
    }

    private static long varianceAfter(int steps, long a, long c, long q, long w) {
        long b = 0;
        for (int i = 0; i < steps; i++) {
            a += 2 * b + c + q;
            b += c;
            c += w;
        }
        return a;
    }

    private static void promise22Overflow() {
        TankFilter t = new TankFilter();
        t.setProcessNoise(0, 0);
        t.reset(5, 1, 40960000, 40960000);
        Check.asks("forecastVariance(4)", t, 17 * 40960000, () -> t.forecastVariance(4));
        Check.fails("forecastVariance(5)", t, TankFilter.OVERFLOW, () -> t.forecastVariance(5));
        Check.fails("forecastVariance(100)", t, TankFilter.OVERFLOW, () -> t.forecastVariance(100));
        TankFilter high = atTheLimit();
        Check.asks("forecastVariance(0) at the limit", high, 0, () -> high.forecastVariance(0));
        Check.fails("forecastVariance(1) fails by the level", high, TankFilter.OVERFLOW,
                () -> high.forecastVariance(1));
    }

    private static void promise23StepsTo() {
        TankFilter t = steadyFlow(0, 3);
        Check.asks("stepsTo(0)", t, 0, () -> t.stepsTo(0));
        Check.asks("stepsTo(1)", t, 1, () -> t.stepsTo(1));
        Check.asks("stepsTo(3)", t, 1, () -> t.stepsTo(3));
        Check.asks("stepsTo(4)", t, 2, () -> t.stepsTo(4));
        Check.asks("stepsTo(300)", t, 100, () -> t.stepsTo(300));
        Check.asks("stepsTo(301)", t, TankFilter.NONE, () -> t.stepsTo(301));
        Check.asks("stepsTo(-1)", t, TankFilter.NONE, () -> t.stepsTo(-1));
        TankFilter still = steadyFlow(40960000, 0);
        Check.asks("stepsTo(40960000)", still, 0, () -> still.stepsTo(40960000));
        Check.asks("stepsTo(-40960000)", still, TankFilter.NONE, () -> still.stepsTo(-40960000));
    }

    private static void promise23StepsDown() {
        TankFilter t = steadyFlow(10, -4);
        Check.asks("stepsTo(10)", t, 0, () -> t.stepsTo(10));
        Check.asks("stepsTo(9)", t, 1, () -> t.stepsTo(9));
        Check.asks("stepsTo(6)", t, 1, () -> t.stepsTo(6));
        Check.asks("stepsTo(5)", t, 2, () -> t.stepsTo(5));
        Check.asks("stepsTo(-390)", t, 100, () -> t.stepsTo(-390));
        Check.asks("stepsTo(-391)", t, TankFilter.NONE, () -> t.stepsTo(-391));
        Check.asks("stepsTo(11)", t, TankFilter.NONE, () -> t.stepsTo(11));
    }

    private static void promise23OverflowBefore() {
        TankFilter t = new TankFilter();
        t.setProcessNoise(0, 0);
        t.reset(0, 1, 40960000, 40960000);
        Check.asks("stepsTo(4)", t, 4, () -> t.stepsTo(4));
        Check.asks("stepsTo(5)", t, TankFilter.NONE, () -> t.stepsTo(5));
        TankFilter high = atTheLimit();
        Check.asks("stepsTo() below an x that leaves the limit", high, TankFilter.NONE, () -> high.stepsTo(40960000));
    }

    private static void promise23WrongTarget() {
        TankFilter t = new TankFilter();
        for (int bad : new int[] {-40960001, 40960001, MIN, MAX}) {
            Check.invalid("stepsTo(" + bad + ")", t, () -> t.stepsTo(bad));
        }
        Check.asks("stepsTo(40960000)", t, TankFilter.NONE, () -> t.stepsTo(40960000));
        Check.asks("stepsTo(-40960000)", t, TankFilter.NONE, () -> t.stepsTo(-40960000));
    }
}
