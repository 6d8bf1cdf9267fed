/** Filters in states that several tests begin with; sensor 0 is a level sensor, sensor 1 a flow sensor. */
final class Filters {
    static final int LIMIT = 1000000000;

    /**
     * The variances, in thousands, of flow readings between predictions (0), each rounded so that the
     * covariance comes out larger than the variances allow. No shorter way to a large gain is known.
     */
    private static final int[] WAY_TO_A_LARGE_GAIN = {
        0, 0, 0, 0, 0, 40808, 0, 0, 34029, 0, 35722, 0, 0, 34004, 0, 34242, 0, 34215, 0, 34051, 0, 40922,
        0, 39148, 0, 38242, 0, 36942, 0, 35478, 36952, 0, 35521, 0, 39692, 35785, 0, 34368, 0, 37968,
        38787, 0, 37355, 38324, 0, 36865, 0, 35472, 36526, 0, 35055, 35911, 0, 38700, 39447, 0, 37878,
        38760, 35521, 0, 37904, 34704, 0, 37224, 34332, 0, 40074
    };

    private Filters() {
    }

    /** No process noise. */
    static TankFilter quiet(int level, int flow, int levelVariance, int flowVariance) {
        TankFilter t = new TankFilter();
        t.setProcessNoise(0, 0);
        t.setSensor(1, TankFilter.FLOW, 4096);
        t.reset(level, flow, levelVariance, flowVariance);
        return t;
    }

    /** x is the limit, or the negative one; v, a, b and c are 0. */
    static TankFilter atTheLimit(int sign) {
        TankFilter t = quiet(sign * 40960000, 0, 0, 0);
        for (int i = 0; i < 234; i++) {
            t.predict(sign * 4096000);
        }
        Check.due("predict() to the limit", t.predict(sign * 576000), sign * LIMIT);
        return t;
    }

    /** a is the limit less 99 noises of 4096000; the level grows by 1 with each prediction. */
    static TankFilter ninetyNineNoisesToTheLimit() {
        TankFilter t = quiet(0, 1, 40960000, 0);
        t.setProcessNoise(4096000, 0);
        for (int i = 0; i < 135; i++) {
            t.predict(-1);
        }
        t.setProcessNoise(576000, 0);
        t.predict(-1);
        t.setProcessNoise(4096000, 0);
        Check.state("136 predictions", t, 0, 1, LIMIT - 99 * 4096000, 0, 0);
        return t;
    }

    /** A reading of the flow sensor moves the level by some 30 times as much: its gain k is 122850. */
    static TankFilter swinging(int level) {
        TankFilter t = quiet(level, 0, 0, 4096);
        t.setGate(0);
        t.setSensor(1, TankFilter.FLOW, 1);
        for (int i = 0; i < 30; i++) {
            t.predict(0);
        }
        return t;
    }

    /** Rounding leaves a negative covariance behind: a is 100, b is -64 and c is 0. */
    static TankFilter withNegativeCovariance() {
        TankFilter t = new TankFilter();
        t.setSensor(1, TankFilter.FLOW, 10);
        t.reset(0, 0, 100, 40960000);
        t.predict(0);
        t.correct(1, 0);
        Check.state("correct(1, 0)", t, 0, 0, 100, -64, 0);
        return t;
    }

    /** b is 244140 and c is 0: a gain of b by a variance of 1 is 999997440, just in the limit. */
    static TankFilter withTheLargestGain() {
        TankFilter t = nearTheLargestGain(28200, 10553, 8200, 32800);
        Check.state("the way to a large gain", t, 0, 0, 236564, 244140, 0);
        return t;
    }

    /** b is 244141 and c is 0: a gain of b by a variance of 1 would be 1000001536, above the limit. */
    static TankFilter withATooLargeGain() {
        TankFilter t = nearTheLargestGain(35900, 9889, 8600, 29400);
        Check.state("the way to a large gain", t, 0, 0, 505980, 244141, 0);
        return t;
    }

    /** The level variances are in thousands; the flow variance is not. */
    private static TankFilter nearTheLargestGain(int first, int second, int flowVariance, int last) {
        TankFilter t = quiet(0, 0, 0, 40000000);
        for (int thousands : WAY_TO_A_LARGE_GAIN) {
            if (thousands == 0) {
                t.predict(0);
            } else {
                correctByVariance(t, TankFilter.FLOW, thousands * 1000);
            }
        }
        correctByVariance(t, TankFilter.LEVEL, first * 1000);
        correctByVariance(t, TankFilter.LEVEL, second * 1000);
        correctByVariance(t, TankFilter.FLOW, flowVariance);
        correctByVariance(t, TankFilter.LEVEL, last * 1000);
        return t;
    }

    /** The number of a sensor of each kind is the kind itself; x and v are 0, and so is the innovation. */
    private static void correctByVariance(TankFilter t, int kind, int variance) {
        t.setSensor(kind, kind, variance);
        t.correct(kind, 0);
    }
}
