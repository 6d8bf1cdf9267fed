/** Promises 24 to 27: the steady gain and the best noise. */
public final class NoiseTest {
    private static final int NONE = TankFilter.NONE;
    private static final int[] CANDIDATES = {
        0, 1, 4, 16, 64, 256, 1024, 4096, 16384, 65536, 262144, 1048576
    };

    public static void main(String[] args) {
        promises24And25();
        steadyFailures();
        promise26();
        promise27();
        Check.end();
    }

    private static void promises24And25() {
        Check.sentence("24: sensor 0 to 3", NoiseTest::steadySensor);
        Check.sentence("25: sensor 0 to 3", NoiseTest::steadyGainSensor);
        Check.sentence("25: kind LEVEL or FLOW", NoiseTest::steadyGainKind);
        Check.sentence("24: the first cycle is compared with the present values", NoiseTest::steadyAtOnce);
        Check.sentence("24: not steady if only a differs", NoiseTest::onlyLevelVarianceDiffers);
        Check.sentence("24: not steady if only b differs", NoiseTest::onlyCovarianceDiffers);
        Check.sentence("24: not steady if only c differs", NoiseTest::onlyFlowVarianceDiffers);
        Check.sentence("24: the number of the first such cycle", NoiseTest::steadyAfterSomeCycles);
        Check.sentence("24: cycle 300 is the last one", NoiseTest::steadyInTheLastCycle);
        Check.sentence("24: NONE if it would be cycle 301", NoiseTest::steadyTooLate);
        Check.sentence("24: cycles of a flow sensor", NoiseTest::steadyByAFlowSensor);
        Check.sentence("24: the gate does not matter", NoiseTest::steadyWithAnyGate);
        Check.sentence("24: cycles start from the present b", NoiseTest::steadyFromThePresentCovariance);
    }

    private static void steadyFailures() {
        Check.sentence("24: x to the limit and not beyond", () -> steadyAtTheLimit(1));
        Check.sentence("24: x to the negative limit and not beyond", () -> steadyAtTheLimit(-1));
        Check.sentence("24: a failure after the steady cycle does not matter", NoiseTest::steadyBeforeAFailure);
        Check.sentence("24: NONE if a leaves the limit before", NoiseTest::steadyVarianceLeaves);
        Check.sentence("24: NONE if a correction fails before", NoiseTest::steadyCorrectionFails);
        Check.sentence("25: NONE if steadyCycles() is NONE, and no error", NoiseTest::steadyNoneIsNoError);
    }

    private static void promise26() {
        Check.sentence("26: flowNoise 0 to 4096000", NoiseTest::replayNoise);
        Check.sentence("26: the sum of the absolute innovations", NoiseTest::replaySum);
        Check.sentence("26: starts with the present state", NoiseTest::replayStartsWithThePresentState);
        Check.sentence("26: predictions with their inflows", NoiseTest::replayInflows);
        Check.sentence("26: corrections by the present sensors", NoiseTest::replaysPresentSensors);
        Check.sentence("26: without a gate", NoiseTest::replayWithoutAGate);
        Check.sentence("26: the present q", NoiseTest::replayLevelNoise);
        Check.sentence("26: the argument in place of w", NoiseTest::replayFlowNoise);
        Check.sentence("26: REJECTED if the history is empty", NoiseTest::replayOfAnEmptyHistory);
        Check.sentence("26: REJECTED if there is no reading", NoiseTest::replayOfPredictions);
        Check.sentence("26: a rejected reading is a reading", NoiseTest::replayOfARejectedReading);
        Check.sentence("26: OVERFLOW if a prediction fails", NoiseTest::replayedPredictionFails);
        Check.sentence("26: OVERFLOW if a correction fails", NoiseTest::replayedCorrectionFails);
        Check.sentence("26: OVERFLOW if a gain is not in the limit", NoiseTest::replayedGainLeaves);
        Check.sentence("26: a sum of 10^9 is in the limit", NoiseTest::replaySumAtTheLimit);
        Check.sentence("26: OVERFLOW if the sum is not in the limit", NoiseTest::replaySumLeaves);
    }

    private static void promise27() {
        Check.sentence("27: each of the 12 candidates can be the best", NoiseTest::eachCandidate);
        Check.sentence("27: the smallest replayError()", NoiseTest::bestOfSeveralReadings);
        Check.sentence("27: the smallest of equal ones", NoiseTest::bestOfEqualOnes);
        Check.sentence("27: an error of 10^9 is not left out", NoiseTest::bestAtTheLimit);
        Check.sentence("27: candidates that OVERFLOW are left out", NoiseTest::bestLeavesOut);
        Check.sentence("27: NONE if all are left out, and no error", NoiseTest::bestOfNone);
        Check.sentence("27: REJECTED if the history is empty", NoiseTest::bestOfAnEmptyHistory);
        Check.sentence("27: REJECTED if there is no reading", NoiseTest::bestOfPredictions);
        Check.sentence("27: a rejected reading is a reading", NoiseTest::bestOfARejectedReading);
    }

    private static void steady(TankFilter t, int sensor, int cycles, int levelGain, int flowGain) {
        Check.asks("steadyCycles(" + sensor + ")", t, cycles, () -> t.steadyCycles(sensor));
        Check.asks("steadyGain(" + sensor + ", LEVEL)", t, levelGain, () -> t.steadyGain(sensor, TankFilter.LEVEL));
        Check.asks("steadyGain(" + sensor + ", FLOW)", t, flowGain, () -> t.steadyGain(sensor, TankFilter.FLOW));
    }

    private static void steadySensor() {
        TankFilter t = new TankFilter();
        Check.range("steadyCycles(n)", t, 0, 3, t::steadyCycles);
    }

    private static void steadyGainSensor() {
        TankFilter t = new TankFilter();
        Check.range("steadyGain(n, LEVEL)", t, 0, 3, n -> t.steadyGain(n, TankFilter.LEVEL));
        Check.range("steadyGain(n, FLOW)", t, 0, 3, n -> t.steadyGain(n, TankFilter.FLOW));
    }

    private static void steadyGainKind() {
        TankFilter t = new TankFilter();
        Check.range("steadyGain(0, n)", t, 0, 1, n -> t.steadyGain(0, n));
    }

    private static void steadyAtOnce() {
        steady(Filters.quiet(5, 6, 0, 0), 0, 1, 0, 0);
        // a becomes 1 by the noise, and the correction takes it away again.
        TankFilter t = Filters.quiet(5, 6, 0, 0);
        t.setProcessNoise(1, 0);
        t.setSensor(3, TankFilter.LEVEL, 1);
        steady(t, 3, 1, 2048, 0);
        // From 1, a becomes 2 by the noise and 1 by the correction.
        t.reset(5, 6, 1, 0);
        t.setSensor(3, TankFilter.LEVEL, 2);
        steady(t, 3, 1, 2048, 0);
        t.setSensor(3, TankFilter.LEVEL, 1);
        steady(t, 3, 1, 2731, 0);
    }

    private static void onlyLevelVarianceDiffers() {
        TankFilter t = Filters.quiet(5, 6, 0, 0);
        t.setProcessNoise(1, 0);
        // The first cycle takes a from 0 to 1.
        steady(t, 0, 46, 45, 0);
    }

    private static void onlyCovarianceDiffers() {
        TankFilter t = Filters.quiet(0, 0, 9, 1);
        t.setSensor(0, TankFilter.LEVEL, 90);
        int[] expected = cyclesOfALevelSensor(9, 0, 1, 90, 0);
        Check.holds("the first cycle is not steady", expected[0] > 1);
        // The first cycle takes b from 0 to 1.
        steady(t, 0, expected);
        t.predict(0);
        t.correct(0, 0);
        Check.state("a cycle", t, 0, 0, 9, 1, 1);
    }

    private static void onlyFlowVarianceDiffers() {
        TankFilter t = Filters.quiet(0, 0, 0, 0);
        t.setProcessNoise(0, 1);
        int[] expected = cyclesOfALevelSensor(0, 0, 0, 4096, 1);
        Check.holds("the first cycle is not steady", expected[0] > 1);
        // The first cycle takes c from 0 to 1.
        steady(t, 0, expected);
        t.predict(0);
        t.correct(0, 0);
        Check.state("a cycle", t, 0, 0, 0, 0, 1);
    }

    private static void steady(TankFilter t, int sensor, int[] expected) {
        steady(t, sensor, expected[0], expected[1], expected[2]);
    }

    private static void steadyAfterSomeCycles() {
        TankFilter t = Filters.quiet(5, 6, 0, 0);
        t.setProcessNoise(1, 0);
        // With r = 4096 the gain is about a: it takes nothing away before a is 46.
        steady(t, 0, 46, 45, 0);
    }

    /** Its sensors 2 and 3 are the level sensors whose covariances are steady after cycles 300 and 301. */
    private static TankFilter slow() {
        TankFilter t = Filters.quiet(0, 0, 4096, 0);
        t.setProcessNoise(0, 1);
        t.setSensor(2, TankFilter.LEVEL, 6721513);
        t.setSensor(3, TankFilter.LEVEL, 5881324);
        return t;
    }

    private static void steadyInTheLastCycle() {
        steady(slow(), 2, 300, 111, 2);
    }

    private static void steadyTooLate() {
        TankFilter t = slow();
        steady(t, 3, NONE, NONE, NONE);
        Check.due("the cycle that is too late", cyclesOfALevelSensor(4096, 0, 0, 5881324, 1, 400)[0], 301);
        // One cycle less is to go after a prediction and a reading that the cycle would make, too.
        t.predict(0);
        t.correct(3, 0);
        Check.due("steadyCycles(3)", t.steadyCycles(3), 300);
    }

    private static void steadyByAFlowSensor() {
        TankFilter t = Filters.quiet(0, 0, 10, 0);
        t.setSensor(2, TankFilter.FLOW, 10);
        steady(t, 2, 1, 0, 0);
        t.setProcessNoise(0, 10);
        t.setSensor(2, TankFilter.FLOW, 20);
        steady(t, 2, cyclesOfAFlowSensor(10, 0, 0, 20, 10));
    }

    /** The number of the steady cycle and its gains, by the document's formulas for a flow sensor. */
    private static int[] cyclesOfAFlowSensor(long a, long b, long c, long r, long w) {
        for (int cycle = 1; cycle <= 300; cycle++) {
            long pa = Math.max(0, a + 2 * b + c);
            long pb = b + c;
            long pc = c + w;
            long k = div(pb, pc + r);
            long l = div(pc, pc + r);
            long na = Math.max(0, pa - mul(k, pb));
            long nb = pb - mul(k, pc);
            long nc = Math.max(0, pc - mul(l, pc));
            if (na == a && nb == b && nc == c) {
                return new int[] {cycle, (int) k, (int) l};
            }
            a = na;
            b = nb;
            c = nc;
        }
        return new int[] {NONE, NONE, NONE};
    }

    private static int[] cyclesOfALevelSensor(long a, long b, long c, long r, long w) {
        return cyclesOfALevelSensor(a, b, c, r, w, 300);
    }

    private static int[] cyclesOfALevelSensor(long a, long b, long c, long r, long w, int last) {
        for (int cycle = 1; cycle <= last; cycle++) {
            long pa = Math.max(0, a + 2 * b + c);
            long pb = b + c;
            long pc = c + w;
            long k = div(pa, pa + r);
            long l = div(pb, pa + r);
            long na = Math.max(0, pa - mul(k, pa));
            long nb = pb - mul(k, pb);
            long nc = Math.max(0, pc - mul(l, pb));
            if (na == a && nb == b && nc == c) {
                return new int[] {cycle, (int) k, (int) l};
            }
            a = na;
            b = nb;
            c = nc;
        }
        return new int[] {NONE, NONE, NONE};
    }

    private static long mul(long a, long b) {
        return Math.floorDiv(a * b + 2048, 4096L);
    }

    private static long div(long a, long b) {
        return Math.floorDiv(a * 4096 + b / 2, b);
    }

    private static void steadyWithAnyGate() {
        TankFilter t = Filters.quiet(40000000, 4096000, 0, 0);
        for (int i = 0; i < 10; i++) {
            t.predict(4096000);
        }
        for (int gate : new int[] {0, 1, 25}) {
            t.setGate(gate);
            steady(t, 0, 1, 0, 0);
        }
    }

    private static void steadyFromThePresentCovariance() {
        TankFilter t = new TankFilter();
        t.predict(0);
        t.setProcessNoise(0, 1);
        steady(t, 0, cyclesOfALevelSensor(8192, 4096, 4160, 4096, 1));
        t.setSensor(1, TankFilter.FLOW, 4096);
        steady(t, 1, cyclesOfAFlowSensor(8192, 4096, 4160, 4096, 1));
    }

    private static void steadyAtTheLimit(int sign) {
        TankFilter t = Filters.quiet(sign * 40960000, sign * 4096000, 0, 0);
        for (int i = 1; i <= 116; i++) {
            t.predict(sign * 4096000);
        }
        t.predict(sign * 576000);
        Check.due("level()", t.level(), sign * (Filters.LIMIT - 4096000));
        // The first cycle takes x just to the limit.
        steady(t, 0, 1, 0, 0);
        t.predict(sign * -4095999);
        steady(t, 0, NONE, NONE, NONE);
    }

    private static void steadyBeforeAFailure() {
        // x grows by 4096000 a cycle: with room for 45 of them, the cycle 46 fails.
        steadyWithinTheLimit(45, NONE);
        steadyWithinTheLimit(46, 46);
        steadyWithinTheLimit(47, 46);
    }

    /** The level may grow for some cycles; the covariances are steady after 46. */
    private static void steadyWithinTheLimit(int room, int cycles) {
        TankFilter t = Filters.quiet(40960000, 4096000, 0, 0);
        int start = Filters.LIMIT - room * 4096000;
        while (t.level() + 2 * 4096000 <= start) {
            t.predict(4096000);
        }
        t.predict(start - t.level() - 4096000);
        Check.due("level()", t.level(), start);
        t.setProcessNoise(1, 0);
        Check.asks("steadyCycles(0)", t, cycles, () -> t.steadyCycles(0));
    }

    private static void steadyVarianceLeaves() {
        TankFilter t = Filters.quiet(0, 0, 40960000, 40960000);
        t.setProcessNoise(4096000, 4096000);
        t.setSensor(0, TankFilter.FLOW, 40960000);
        steady(t, 0, NONE, NONE, NONE);
    }

    private static void steadyCorrectionFails() {
        TankFilter t = Filters.withTheLargestGain();
        t.setSensor(1, TankFilter.FLOW, 1);
        // The first cycle takes a to 0, and the second one leaves it there.
        steady(t, 1, 2, 999997440, 0);
        TankFilter u = Filters.withATooLargeGain();
        u.setSensor(1, TankFilter.FLOW, 1);
        steady(u, 1, NONE, NONE, NONE);
        u.setSensor(1, TankFilter.FLOW, 2);
        steady(u, 1, 2, 500000768, 0);
    }

    private static void steadyNoneIsNoError() {
        TankFilter t = slow();
        Check.due("steadyGain(3, LEVEL)", t.steadyGain(3, TankFilter.LEVEL), NONE);
        Check.due("steadyGain(3, FLOW)", t.steadyGain(3, TankFilter.FLOW), NONE);
        for (int kind = 0; kind < 3; kind++) {
            Check.due("errorCount(" + kind + ")", t.errorCount(kind), 0);
        }
    }

    private static void replayNoise() {
        TankFilter t = new TankFilter();
        t.correct(0, 5);
        Check.range("replayError(n)", t, 0, 4096000, t::replayError);
    }

    private static void replaySum() {
        TankFilter t = Filters.quiet(0, 0, 0, 0);
        t.correct(0, 150);
        t.correct(0, -20);
        t.correct(0, 0);
        Check.asks("replayError(0)", t, 170, () -> t.replayError(0));
    }

    private static void replayStartsWithThePresentState() {
        TankFilter t = new TankFilter();
        t.correct(0, 4096);
        t.predict(0);
        t.correct(0, 8192);
        // x, v, a, b and c are those after the three calls, not those before them.
        Check.asks("replayError(64)", t, 2664, () -> t.replayError(64));
        TankFilter u = Filters.quiet(0, 0, 0, 0);
        u.predict(100);
        u.predict(0);
        u.correct(0, 0);
        Check.asks("replayError(0)", u, 200, () -> u.replayError(0));
    }

    private static void replayInflows() {
        TankFilter t = Filters.quiet(0, 0, 0, 0);
        t.predict(100);
        t.correct(0, 150);
        t.correct(0, 40960000);
        t.predict(-30);
        t.correct(0, 60);
        // No gain, so that x is 70, 170 and 140 in the replay.
        Check.state("before the replay", t, 70, 0, 0, 0, 0);
        Check.asks("replayError(0)", t, 20 + (40960000 - 170) + 80, () -> t.replayError(0));
    }

    private static void replaysPresentSensors() {
        TankFilter t = Filters.quiet(1000, 7, 0, 0);
        t.correct(2, 1100);
        Check.asks("replayError(0) of a level sensor", t, 100, () -> t.replayError(0));
        t.setSensor(2, TankFilter.FLOW, 1);
        Check.asks("replayError(0) of a flow sensor", t, 1093, () -> t.replayError(0));
        TankFilter u = Filters.quiet(0, 0, 4096, 0);
        u.correct(2, 0);
        u.correct(2, 0);
        u.reset(0, 0, 0, 0);
        u.correct(2, 4096);
        u.correct(2, 4096);
        u.predict(0);
        u.setProcessNoise(4096, 0);
        u.predict(0);
        u.setProcessNoise(0, 0);
        // a is 4096 now: with r = 4096 the first reading takes x to the middle.
        Check.asks("replayError(0)", u, 4096 + 2048, () -> u.replayError(0));
        u.setSensor(2, TankFilter.LEVEL, 12288);
        Check.asks("replayError(0) with more r", u, 4096 + 3072, () -> u.replayError(0));
    }

    private static void replayWithoutAGate() {
        TankFilter t = new TankFilter();
        t.setGate(1);
        Check.due("correct(0, 40960000)", t.correct(0, 40960000), 0);
        Check.due("correct(0, 40960000)", t.correct(0, 40960000), 0);
        // The first one takes x to the middle in the replay.
        Check.asks("replayError(0)", t, 40960000 + 20480000, () -> t.replayError(0));
    }

    private static void replayLevelNoise() {
        TankFilter t = Filters.quiet(0, 0, 0, 0);
        t.predict(0);
        t.correct(0, 4096);
        t.correct(0, 4096);
        Check.asks("replayError(0) with q = 0", t, 4096 + 4096, () -> t.replayError(0));
        t.setProcessNoise(4096, 0);
        Check.asks("replayError(0) with q = 4096", t, 4096 + 2048, () -> t.replayError(0));
    }

    private static void replayFlowNoise() {
        TankFilter t = Filters.quiet(0, 0, 0, 0);
        t.predict(0);
        t.predict(0);
        t.correct(0, 4096);
        t.correct(0, 4096);
        t.setProcessNoise(0, 99);
        Check.asks("replayError(0)", t, 4096 + 4096, () -> t.replayError(0));
        Check.asks("replayError(4096)", t, 4096 + 2048, () -> t.replayError(4096));
        t.setProcessNoise(0, 4096);
        Check.asks("replayError(0)", t, 4096 + 4096, () -> t.replayError(0));
    }

    private static void replayOfAnEmptyHistory() {
        TankFilter t = new TankFilter();
        Check.rejected("replayError(0)", t, () -> t.replayError(0));
        t.miss(0);
        Check.rejected("replayError(4096000)", t, () -> t.replayError(4096000));
        t.correct(0, 0);
        t.reset(0, 0, 0, 0);
        Check.rejected("replayError(0) after reset()", t, () -> t.replayError(0));
    }

    private static void replayOfPredictions() {
        TankFilter t = Filters.quiet(0, 0, 0, 0);
        t.predict(0);
        t.miss(0);
        Check.rejected("replayError(0)", t, () -> t.replayError(0));
        t.correct(0, 3);
        for (int i = 0; i < 22; i++) {
            t.predict(0);
        }
        t.predict(0);
        Check.asks("replayError(0) of the oldest entry", t, 3, () -> t.replayError(0));
        t.predict(0);
        Check.rejected("replayError(0) of 24 predictions", t, () -> t.replayError(0));
    }

    private static void replayOfARejectedReading() {
        TankFilter t = Filters.quiet(0, 0, 0, 0);
        Check.due("correct(0, 40960000)", t.correct(0, 40960000), 0);
        Check.asks("replayError(0)", t, 40960000, () -> t.replayError(0));
    }

    private static void replayedPredictionFails() {
        TankFilter t = Filters.quiet(0, 0, 0, 0);
        for (int i = 0; i < 20; i++) {
            t.predict(0);
        }
        t.correct(0, 0);
        Check.asks("replayError(0)", t, 0, () -> t.replayError(0));
        Check.overflows("replayError(4096000)", t, () -> t.replayError(4096000));
        TankFilter u = Filters.atTheLimit(1);
        u.predict(-1);
        u.predict(1);
        u.correct(0, 0);
        Check.due("replayError(0) of all", u.replayError(0), TankFilter.OVERFLOW);
        for (int i = 0; i < 22; i++) {
            u.predict(0);
        }
        // predict(1) is the oldest entry.
        Check.overflows("replayError(0) beyond the limit", u, () -> u.replayError(0));
        u.predict(0);
        Check.asks("replayError(0) without it", u, Filters.LIMIT, () -> u.replayError(0));
    }

    private static void replayedCorrectionFails() {
        TankFilter t = Filters.swinging(0);
        t.setGate(9);
        Check.due("correct(1, 40960000)", t.correct(1, 40960000), 0);
        // Without a gate the reading takes the level above the limit.
        Check.overflows("replayError(0)", t, () -> t.replayError(0));
        TankFilter u = Filters.swinging(0);
        u.setGate(9);
        Check.due("correct(1, 10000000)", u.correct(1, 10000000), 0);
        Check.due("replayError(0)", u.replayError(0), 10000000);
    }

    private static void replayedGainLeaves() {
        TankFilter t = Filters.withTheLargestGain();
        t.setSensor(1, TankFilter.FLOW, 1);
        fillHistoryWithFlowReadings(t);
        Check.asks("replayError(0)", t, 0, () -> t.replayError(0));
        TankFilter u = Filters.withATooLargeGain();
        u.setSensor(1, TankFilter.FLOW, 2);
        fillHistoryWithFlowReadings(u);
        Check.asks("replayError(0)", u, 0, () -> u.replayError(0));
        u.setSensor(1, TankFilter.FLOW, 1);
        Check.overflows("replayError(0)", u, () -> u.replayError(0));
    }

    /** After these calls the history has nothing else, and b stays as it is. */
    private static void fillHistoryWithFlowReadings(TankFilter t) {
        for (int i = 0; i < 24; i++) {
            Check.due("correct(1, 0)", t.correct(1, 0), 1);
        }
    }

    private static void replaySumAtTheLimit() {
        TankFilter t = Filters.quiet(40960000, 0, 0, 0);
        for (int i = 0; i < 12; i++) {
            t.correct(0, -40960000);
        }
        t.correct(0, 40960000 - 16960000);
        Check.asks("replayError(0)", t, Filters.LIMIT, () -> t.replayError(0));
        t.correct(0, 40960000);
        Check.asks("replayError(0)", t, Filters.LIMIT, () -> t.replayError(0));
    }

    private static void replaySumLeaves() {
        TankFilter t = Filters.quiet(40960000, 0, 0, 0);
        for (int i = 0; i < 12; i++) {
            t.correct(0, -40960000);
        }
        t.correct(0, 40960000 - 16960001);
        Check.overflows("replayError(0) just out of the limit", t, () -> t.replayError(0));
        for (int i = 0; i < 24; i++) {
            t.correct(0, -40960000);
        }
        Check.overflows("replayError(0) far out of the limit", t, () -> t.replayError(0));
        TankFilter high = Filters.atTheLimit(1);
        for (int i = 0; i < 24; i++) {
            high.correct(0, -40960000);
        }
        // The sum is more than an int holds, ten times and more.
        Check.overflows("replayError(0) of the largest innovations", high, () -> high.replayError(0));
    }

    private static void eachCandidate() {
        best(0, 3100, 64, 1200, 1200, 300, -400);
        best(1, 7100, 1, -500, 4000, 2100, 4800);
        best(4, 22802, 1, 5000, 12500, 20000, 24700);
        best(16, 5860, 64, 100, 300, 4800, 3300);
        best(64, 14300, 64, 2700, 8300, 9700, 12300);
        best(256, 15322, 64, 3600, 9000, 12400, 19200);
        best(1024, 9129, 4096, 1000, 1900, 5400, 3400);
        best(4096, 12075, 4096, 2800, 8400, 8900, 13600);
        best(16384, 10838, 4096, 4500, 3900, 6600, 12000);
        best(65536, 13052, 4096, 5100, 6300, 11200, 15600);
        best(262144, 9229, 100000, 3100, 4500, 5300, 8400);
        best(1048576, 12376, 1000000, 2000, 6200, 7500, 14000);
    }

    /** A prediction before each reading, and no variance before the replay brings its noise. */
    private static void best(int candidate, int error, int variance, int... readings) {
        TankFilter t = Filters.quiet(0, 0, 0, 0);
        t.setGate(0);
        t.setSensor(0, TankFilter.LEVEL, variance);
        for (int reading : readings) {
            t.predict(0);
            t.correct(0, reading);
        }
        Check.asks("bestFlowNoise()", t, candidate, t::bestFlowNoise);
        Check.asks("replayError(" + candidate + ")", t, error, () -> t.replayError(candidate));
    }

    private static void bestOfSeveralReadings() {
        for (int slope : new int[] {-30, 100, 700, 5000}) {
            TankFilter wave = new TankFilter();
            wave.setGate(0);
            for (int i = 0; i < 12; i++) {
                wave.predict(0);
                wave.correct(0, slope * i * i + (i % 3) * 400);
            }
            Check.asks("bestFlowNoise() for " + slope, wave, smallestOf(wave), wave::bestFlowNoise);
        }
    }

    /** The candidate that replayError() makes the best, asked of the filter itself. */
    private static int smallestOf(TankFilter t) {
        int best = NONE;
        int smallest = Integer.MAX_VALUE;
        for (int candidate : CANDIDATES) {
            int error = t.replayError(candidate);
            if (error >= 0 && error < smallest) {
                smallest = error;
                best = candidate;
            }
        }
        return best;
    }

    private static void bestOfEqualOnes() {
        TankFilter t = Filters.quiet(0, 0, 0, 0);
        t.correct(0, 4096);
        Check.asks("bestFlowNoise() when all are equal", t, 0, t::bestFlowNoise);
        t.reset(0, 0, 0, 0);
        t.setSensor(0, TankFilter.LEVEL, 1);
        t.predict(0);
        t.predict(0);
        t.correct(0, 4096);
        t.correct(0, 4096);
        // The gain is 4096 for the noise 16384 and the larger ones, so that the second innovation is 0.
        Check.due("replayError(4096)", t.replayError(4096), 4096 + 1);
        Check.due("replayError(16384)", t.replayError(16384), 4096);
        Check.due("replayError(1048576)", t.replayError(1048576), 4096);
        Check.asks("bestFlowNoise() when the last are equal", t, 16384, t::bestFlowNoise);
    }

    private static void bestAtTheLimit() {
        TankFilter t = Filters.quiet(40960000, 0, 0, 0);
        for (int i = 0; i < 12; i++) {
            t.correct(0, -40960000);
        }
        t.correct(0, 40960000 - 16960000);
        Check.asks("bestFlowNoise()", t, 0, t::bestFlowNoise);
    }

    private static void bestLeavesOut() {
        TankFilter t = Filters.quiet(0, 0, 0, 0);
        for (int i = 0; i < 22; i++) {
            t.predict(0);
        }
        t.correct(0, 4096);
        t.correct(0, 4096);
        // The noises 262144 and 1048576 let a leave the limit; the largest one that does not is the best.
        Check.overflows("replayError(1048576)", t, () -> t.replayError(1048576));
        Check.due("replayError(16384)", t.replayError(16384), 4096);
        Check.asks("bestFlowNoise()", t, smallestOf(t), t::bestFlowNoise);
    }

    private static void bestOfNone() {
        TankFilter t = Filters.quiet(40960000, 0, 0, 0);
        for (int i = 0; i < 13; i++) {
            t.correct(0, -40960000);
        }
        Check.asks("bestFlowNoise()", t, NONE, t::bestFlowNoise);
        Check.due("errorCount(2)", t.errorCount(2), 0);
    }

    private static void bestOfAnEmptyHistory() {
        TankFilter t = new TankFilter();
        Check.rejected("bestFlowNoise()", t, t::bestFlowNoise);
        t.correct(0, 0);
        t.reset(0, 0, 0, 0);
        Check.rejected("bestFlowNoise() after reset()", t, t::bestFlowNoise);
    }

    private static void bestOfPredictions() {
        TankFilter t = new TankFilter();
        t.predict(0);
        t.miss(0);
        Check.rejected("bestFlowNoise()", t, t::bestFlowNoise);
    }

    private static void bestOfARejectedReading() {
        TankFilter t = new TankFilter();
        Check.due("correct(0, 40960000)", t.correct(0, 40960000), 0);
        Check.asks("bestFlowNoise()", t, 0, t::bestFlowNoise);
    }
}
