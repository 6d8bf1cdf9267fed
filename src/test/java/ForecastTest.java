/** Promises 21 to 23: forecasts. */
public final class ForecastTest {
    private static final int NONE = TankFilter.NONE;

    public static void main(String[] args) {
        promise21();
        promise22();
        promise23();
        Check.end();
    }

    private static void promise21() {
        Check.sentence("21: steps 0 to 100", ForecastTest::forecastSteps);
        Check.sentence("21: 0 steps are the present level", ForecastTest::forecastOfNoStep);
        Check.sentence("21: the level after some predictions", ForecastTest::forecastOfSomeSteps);
        Check.sentence("21: without known inflow", ForecastTest::forecastWithoutInflow);
        Check.sentence("21: without changing the filter", ForecastTest::forecastChangesNothing);
        Check.sentence("21: OVERFLOW if x becomes too large", () -> forecastLevelLeaves(1));
        Check.sentence("21: OVERFLOW if x becomes too small", () -> forecastLevelLeaves(-1));
        Check.sentence("21: OVERFLOW if a becomes too large", ForecastTest::forecastVarianceLeavesToo);
        Check.sentence("21: OVERFLOW by the very first prediction", ForecastTest::forecastAtTheLimit);
    }

    private static void promise22() {
        Check.sentence("22: steps 0 to 100", ForecastTest::varianceSteps);
        Check.sentence("22: 0 steps are the present variance", ForecastTest::varianceOfNoStep);
        Check.sentence("22: the variance after some predictions", ForecastTest::varianceOfSomeSteps);
        Check.sentence("22: a negative a becomes 0 in a forecast, too", ForecastTest::varianceBecomesZero);
        Check.sentence("22: without changing the filter", ForecastTest::varianceChangesNothing);
        Check.sentence("22: OVERFLOW if a becomes too large", ForecastTest::varianceLeaves);
        Check.sentence("22: OVERFLOW if x becomes too large", ForecastTest::varianceFailsByTheLevel);
    }

    private static void promise23() {
        Check.sentence("23: target -40960000 to 40960000", ForecastTest::targetRange);
        Check.sentence("23: 0 if x equals the target", ForecastTest::stepsToThePresentLevel);
        Check.sentence("23: 0 if x equals the target, though predictions fail", ForecastTest::noStepNeedsNoPrediction);
        Check.sentence("23: x at least the target from below", ForecastTest::stepsUp);
        Check.sentence("23: x at most the target from above", ForecastTest::stepsDown);
        Check.sentence("23: the number is at most 100, upwards", ForecastTest::hundredStepsUp);
        Check.sentence("23: the number is at most 100, downwards", ForecastTest::hundredStepsDown);
        Check.sentence("23: NONE if x moves away or stands", ForecastTest::neverReached);
        Check.sentence("23: NONE if a prediction fails before", ForecastTest::failsBeforeTheTarget);
        Check.sentence("23: NONE if the present q lets a prediction fail before", ForecastTest::failsByLevelNoise);
        Check.sentence("23: NONE if the present w lets a prediction fail before", ForecastTest::failsByFlowNoise);
        Check.sentence("23: NONE if x itself leaves the limit", ForecastTest::failsByTheLevel);
        Check.sentence("23: without known inflow, and nothing changes", ForecastTest::stepsWithoutInflow);
    }

    private static void forecastSteps() {
        TankFilter t = Filters.quiet(0, 2, 0, 0);
        Check.range("forecast(n)", t, 0, 100, t::forecast);
        Check.asks("forecast(100)", t, 200, () -> t.forecast(100));
    }

    private static void forecastOfNoStep() {
        TankFilter t = Filters.quiet(50, -7, 5, 5);
        Check.asks("forecast(0)", t, 50, () -> t.forecast(0));
        TankFilter high = Filters.atTheLimit(1);
        Check.asks("forecast(0) at the limit", high, Filters.LIMIT, () -> high.forecast(0));
    }

    private static void forecastOfSomeSteps() {
        TankFilter t = Filters.quiet(50, -7, 5, 5);
        Check.asks("forecast(1)", t, 43, () -> t.forecast(1));
        Check.asks("forecast(3)", t, 29, () -> t.forecast(3));
        Check.asks("forecast(99)", t, 50 - 7 * 99, () -> t.forecast(99));
    }

    private static void forecastWithoutInflow() {
        TankFilter t = Filters.quiet(50, -7, 5, 5);
        t.predict(10);
        Check.asks("forecast(2)", t, 53 - 14, () -> t.forecast(2));
    }

    private static void forecastChangesNothing() {
        TankFilter t = new TankFilter();
        t.reset(1, 2, 3, 4);
        t.predict(5);
        t.correct(0, 6);
        int later = t.level() + 50 * t.flow();
        Check.asks("forecast(50)", t, later, () -> t.forecast(50));
        Check.asks("forecast(50) again", t, later, () -> t.forecast(50));
    }

    private static void forecastLevelLeaves(int sign) {
        TankFilter t = Filters.quiet(sign * 40960000, sign * 4096000, 0, 0);
        for (int i = 0; i < 67; i++) {
            t.predict(sign * 4096000);
        }
        t.predict(sign * 576000);
        // 99 flows of 4096000 are missing to the limit.
        Check.asks("forecast(99)", t, sign * Filters.LIMIT, () -> t.forecast(99));
        Check.overflows("forecast(100)", t, () -> t.forecast(100));
    }

    private static void forecastVarianceLeavesToo() {
        TankFilter t = Filters.ninetyNineNoisesToTheLimit();
        Check.asks("forecast(99)", t, 99, () -> t.forecast(99));
        Check.overflows("forecast(100)", t, () -> t.forecast(100));
    }

    private static void forecastAtTheLimit() {
        TankFilter t = Filters.quiet(0, 1, 40960000, 40960000);
        for (int i = 0; i < 4; i++) {
            t.predict(0);
        }
        Check.asks("forecast(0)", t, 4, () -> t.forecast(0));
        Check.overflows("forecast(1)", t, () -> t.forecast(1));
        Check.overflows("forecast(100)", t, () -> t.forecast(100));
    }

    private static void varianceSteps() {
        TankFilter t = Filters.quiet(0, 0, 7, 0);
        t.setProcessNoise(2, 0);
        Check.range("forecastVariance(n)", t, 0, 100, t::forecastVariance);
        Check.asks("forecastVariance(100)", t, 207, () -> t.forecastVariance(100));
    }

    private static void varianceOfNoStep() {
        TankFilter t = new TankFilter();
        t.reset(1, 2, 3, 4);
        Check.asks("forecastVariance(0)", t, 3, () -> t.forecastVariance(0));
        TankFilter high = Filters.atTheLimit(1);
        Check.asks("forecastVariance(0) at the limit", high, 0, () -> high.forecastVariance(0));
    }

    private static void varianceOfSomeSteps() {
        TankFilter t = new TankFilter();
        t.setProcessNoise(5, 7);
        t.reset(0, 0, 10, 3);
        Check.asks("forecastVariance(1)", t, 18, () -> t.forecastVariance(1));
        Check.asks("forecastVariance(2)", t, 39, () -> t.forecastVariance(2));
        long last = varianceAfter(100, 10, 3, 5, 7);
        Check.asks("forecastVariance(100)", t, last, () -> t.forecastVariance(100));
    }

    private static long varianceAfter(int steps, long a, long c, long q, long w) {
        long b = 0;
        for (int i = 0; i < steps; i++) {
            a += 2 * b + c + q;
            b += c;
            c += w;
        }
        return a;
    }

    private static void varianceBecomesZero() {
        TankFilter t = Filters.withNegativeCovariance();
        Check.asks("forecastVariance(1)", t, 0, () -> t.forecastVariance(1));
        // Then b is -64 and c is 64, and then b is 0.
        Check.asks("forecastVariance(2)", t, 0, () -> t.forecastVariance(2));
        Check.asks("forecastVariance(3)", t, 128, () -> t.forecastVariance(3));
    }

    private static void varianceChangesNothing() {
        TankFilter t = new TankFilter();
        t.reset(1, 2, 3, 4);
        t.predict(5);
        t.correct(0, 6);
        int once = t.forecastVariance(50);
        Check.asks("forecastVariance(50) again", t, once, () -> t.forecastVariance(50));
    }

    private static void varianceLeaves() {
        TankFilter t = Filters.ninetyNineNoisesToTheLimit();
        Check.asks("forecastVariance(99)", t, Filters.LIMIT, () -> t.forecastVariance(99));
        Check.overflows("forecastVariance(100)", t, () -> t.forecastVariance(100));
    }

    private static void varianceFailsByTheLevel() {
        TankFilter t = Filters.quiet(40960000, 4096000, 0, 0);
        for (int i = 0; i < 117; i++) {
            t.predict(4096000);
        }
        Check.asks("forecastVariance(0)", t, 0, () -> t.forecastVariance(0));
        Check.overflows("forecastVariance(1)", t, () -> t.forecastVariance(1));
    }

    private static void targetRange() {
        TankFilter t = new TankFilter();
        Check.range("stepsTo(n)", t, -40960000, 40960000, t::stepsTo);
        TankFilter top = Filters.quiet(40960000 - 3, 3, 0, 0);
        Check.asks("stepsTo(40960000)", top, 1, () -> top.stepsTo(40960000));
        TankFilter bottom = Filters.quiet(-40960000 + 3, -3, 0, 0);
        Check.asks("stepsTo(-40960000)", bottom, 1, () -> bottom.stepsTo(-40960000));
    }

    private static void stepsToThePresentLevel() {
        for (int flow : new int[] {-3, 0, 3}) {
            TankFilter t = Filters.quiet(10, flow, 0, 0);
            Check.asks("stepsTo(10)", t, 0, () -> t.stepsTo(10));
        }
    }

    private static void noStepNeedsNoPrediction() {
        TankFilter t = Filters.quiet(0, 1, 40960000, 40960000);
        for (int i = 0; i < 4; i++) {
            t.predict(0);
        }
        Check.asks("stepsTo(4)", t, 0, () -> t.stepsTo(4));
        Check.asks("stepsTo(5)", t, NONE, () -> t.stepsTo(5));
    }

    private static void stepsUp() {
        TankFilter t = Filters.quiet(0, 3, 0, 0);
        Check.asks("stepsTo(1)", t, 1, () -> t.stepsTo(1));
        Check.asks("stepsTo(3)", t, 1, () -> t.stepsTo(3));
        Check.asks("stepsTo(4)", t, 2, () -> t.stepsTo(4));
    }

    private static void stepsDown() {
        TankFilter t = Filters.quiet(0, -3, 0, 0);
        Check.asks("stepsTo(-1)", t, 1, () -> t.stepsTo(-1));
        Check.asks("stepsTo(-3)", t, 1, () -> t.stepsTo(-3));
        Check.asks("stepsTo(-4)", t, 2, () -> t.stepsTo(-4));
    }

    private static void hundredStepsUp() {
        TankFilter t = Filters.quiet(0, 3, 0, 0);
        Check.asks("stepsTo(297)", t, 99, () -> t.stepsTo(297));
        Check.asks("stepsTo(300)", t, 100, () -> t.stepsTo(300));
        Check.asks("stepsTo(301)", t, NONE, () -> t.stepsTo(301));
    }

    private static void hundredStepsDown() {
        TankFilter t = Filters.quiet(0, -3, 0, 0);
        Check.asks("stepsTo(-297)", t, 99, () -> t.stepsTo(-297));
        Check.asks("stepsTo(-300)", t, 100, () -> t.stepsTo(-300));
        Check.asks("stepsTo(-301)", t, NONE, () -> t.stepsTo(-301));
    }

    private static void neverReached() {
        TankFilter up = Filters.quiet(0, 3, 0, 0);
        Check.asks("stepsTo(-1)", up, NONE, () -> up.stepsTo(-1));
        TankFilter down = Filters.quiet(0, -3, 0, 0);
        Check.asks("stepsTo(1)", down, NONE, () -> down.stepsTo(1));
        TankFilter still = Filters.quiet(0, 0, 0, 0);
        Check.asks("stepsTo(1)", still, NONE, () -> still.stepsTo(1));
        Check.asks("stepsTo(-1)", still, NONE, () -> still.stepsTo(-1));
    }

    private static void failsBeforeTheTarget() {
        TankFilter t = Filters.quiet(0, 1, 40960000, 40960000);
        // The fifth prediction fails.
        Check.asks("stepsTo(4)", t, 4, () -> t.stepsTo(4));
        Check.asks("stepsTo(5)", t, NONE, () -> t.stepsTo(5));
        Check.due("errorCount(2)", t.errorCount(2), 0);
    }

    private static void failsByLevelNoise() {
        TankFilter t = Filters.ninetyNineNoisesToTheLimit();
        Check.asks("stepsTo(99)", t, 99, () -> t.stepsTo(99));
        Check.asks("stepsTo(100)", t, NONE, () -> t.stepsTo(100));
        t.setProcessNoise(0, 0);
        Check.asks("stepsTo(100) without noise", t, 100, () -> t.stepsTo(100));
    }

    private static void failsByFlowNoise() {
        int last = 0;
        while (varianceAfter(last + 1, 0, 0, 0, 4096000) <= Filters.LIMIT) {
            last++;
        }
        int steps = last;
        TankFilter t = Filters.quiet(0, 1, 0, 0);
        t.setProcessNoise(0, 4096000);
        Check.asks("stepsTo(" + steps + ")", t, steps, () -> t.stepsTo(steps));
        Check.asks("stepsTo(" + (steps + 1) + ")", t, NONE, () -> t.stepsTo(steps + 1));
        t.setProcessNoise(0, 0);
        Check.asks("stepsTo(100) without noise", t, 100, () -> t.stepsTo(100));
    }

    private static void failsByTheLevel() {
        TankFilter t = Filters.quiet(40960000, 4096000, 0, 0);
        for (int i = 0; i < 117; i++) {
            t.predict(4096000);
        }
        Check.asks("stepsTo(40960000)", t, NONE, () -> t.stepsTo(40960000));
    }

    private static void stepsWithoutInflow() {
        TankFilter t = Filters.quiet(0, 3, 5, 5);
        t.predict(100);
        Check.asks("stepsTo(109)", t, 2, () -> t.stepsTo(109));
        Check.asks("stepsTo(110)", t, 3, () -> t.stepsTo(110));
    }
}
