/** "What it is" and "Terms": fixed-point numbers, the limit, the first state, the history and errors. */
public final class TermsTest {
    public static void main(String[] args) {
        Check.sentence("an object is used for at most 512 calls", TermsTest::fiveHundredAndTwelveCalls);
        fixedPointNumbers();
        firstState();
        history();
        errors();
        Check.end();
    }

    private static void fixedPointNumbers() {
        Check.sentence("mul rounds to the nearest integer", TermsTest::mulRoundsToTheNearest);
        Check.sentence("mul rounds its last division down", TermsTest::mulRoundsDown);
        Check.sentence("div rounds to the nearest integer", TermsTest::divRoundsToTheNearest);
        Check.sentence("div rounds its last division down, of a level reading", TermsTest::divRoundsDownByLevel);
        Check.sentence("div rounds its last division down, of a flow reading", TermsTest::divRoundsDownByFlow);
        Check.sentence("div rounds b / 2 down", TermsTest::divRoundsHalfOfTheDivisorDown);
        Check.sentence("10^9 is in the limit, and no more", () -> endOfTheLimit(1));
        Check.sentence("-10^9 is in the limit, and no less", () -> endOfTheLimit(-1));
    }

    private static void firstState() {
        Check.sentence("at first x, v and b are 0, and a and c are 4096",
                () -> Check.state("new", new TankFilter(), 0, 0, 4096, 0, 4096));
        Check.sentence("q is 0 at first", TermsTest::firstLevelNoise);
        Check.sentence("w is 64 at first", TermsTest::firstFlowNoise);
        Check.sentence("there are 4 sensors, numbered 0 to 3", TermsTest::fourSensors);
        Check.sentence("at first all sensors are of the kind LEVEL", TermsTest::firstKinds);
        Check.sentence("at first all sensors have r = 4096", TermsTest::firstVariances);
        Check.sentence("the gate is 9 at first", TermsTest::firstGate);
    }

    private static void history() {
        Check.sentence("the history has at most 24 entries", TermsTest::historyHas24Entries);
        Check.sentence("the oldest reading is dropped", TermsTest::oldestReadingIsDropped);
        Check.sentence("the oldest prediction is dropped", TermsTest::oldestPredictionIsDropped);
        Check.sentence("rejected readings are recorded", TermsTest::rejectedReadingsAreRecorded);
        Check.sentence("the history begins with the latest reset()", TermsTest::historyBeginsWithReset);
        Check.sentence("a missed reading is not recorded", TermsTest::missedReadingsAreNotRecorded);
        Check.sentence("a prediction that fails is not recorded", TermsTest::failedPredictionsAreNotRecorded);
        Check.sentence("a correction that fails is not recorded", TermsTest::failedCorrectionsAreNotRecorded);
    }

    private static void errors() {
        Check.sentence("a call with several wrong arguments counts once", TermsTest::severalWrongArguments);
        Check.sentence("INVALID before REJECTED", TermsTest::invalidBeforeRejected);
        Check.sentence("INVALID before OVERFLOW", TermsTest::invalidBeforeOverflow);
        Check.sentence("REJECTED before OVERFLOW", TermsTest::rejectedBeforeOverflow);
        Check.sentence("NONE only if no argument is wrong", TermsTest::invalidBeforeNone);
        Check.sentence("NONE only if the state allows the call", TermsTest::rejectedBeforeNone);
    }

    private static void fiveHundredAndTwelveCalls() {
        TankFilter t = new TankFilter();
        for (int i = 1; i <= 500; i++) {
            Check.due("miss(0)", t.miss(0), i);
        }
        for (int i = 1; i <= 8; i++) {
            Check.due("setGate(26)", t.setGate(26), TankFilter.INVALID);
        }
        Check.due("call 509", t.undo(), 3);
        Check.due("call 510", t.predict(7), 7);
        Check.due("call 511", t.errorCount(0), 8);
        Check.due("call 512", t.missed(), 499);
    }

    /** The level after a reading whose gain k is 1024, a quarter. */
    private static int quarterOf(int innovation) {
        TankFilter t = new TankFilter();
        t.setSensor(0, TankFilter.LEVEL, 12288);
        t.correct(0, innovation);
        Check.due("levelGain()", t.levelGain(), 1024);
        return t.level();
    }

    private static void mulRoundsToTheNearest() {
        Check.due("1 / 4", quarterOf(1), 0);
        Check.due("2 / 4", quarterOf(2), 1);
        Check.due("3 / 4", quarterOf(3), 1);
        Check.due("4 / 4", quarterOf(4), 1);
        Check.due("5 / 4", quarterOf(5), 1);
        Check.due("6 / 4", quarterOf(6), 2);
    }

    private static void mulRoundsDown() {
        Check.due("-1 / 4", quarterOf(-1), 0);
        Check.due("-2 / 4", quarterOf(-2), 0);
        Check.due("-3 / 4", quarterOf(-3), -1);
        Check.due("-4 / 4", quarterOf(-4), -1);
        Check.due("-6 / 4", quarterOf(-6), -1);
        Check.due("-7 / 4", quarterOf(-7), -2);
    }

    /** div(a, a + r) */
    private static int gainOf(int a, int r) {
        TankFilter t = new TankFilter();
        t.setSensor(0, TankFilter.LEVEL, r);
        t.reset(0, 0, a, 0);
        t.correct(0, 0);
        return t.levelGain();
    }

    private static void divRoundsToTheNearest() {
        Check.due("4096 / 8193", gainOf(1, 8192), 0);
        Check.due("4096 / 8192", gainOf(1, 8191), 1);
        Check.due("4096 / 8191", gainOf(1, 8190), 1);
        Check.due("3 * 4096 / 8192", gainOf(3, 8189), 2);
        Check.due("3 * 4096 / 8193", gainOf(3, 8190), 1);
    }

    private static void divRoundsDownByLevel() {
        Check.due("-64 * 4096 / 524288", flowGainBelowZero(524288), 0);
        Check.due("-64 * 4096 / 524287", flowGainBelowZero(524287), -1);
        Check.due("-64 * 4096 / 400000", flowGainBelowZero(400000), -1);
        Check.due("-64 * 4096 / 262144", flowGainBelowZero(262144), -1);
        Check.due("-64 * 4096 / 180000", flowGainBelowZero(180000), -1);
        Check.due("-64 * 4096 / 170000", flowGainBelowZero(170000), -2);
    }

    private static int flowGainBelowZero(int s) {
        TankFilter t = Filters.withNegativeCovariance();
        t.setSensor(0, TankFilter.LEVEL, s - 100);
        t.correct(0, 0);
        return t.flowGain();
    }

    private static void divRoundsDownByFlow() {
        Check.due("-64 * 4096 / 524288", levelGainBelowZero(524288), 0);
        Check.due("-64 * 4096 / 524287", levelGainBelowZero(524287), -1);
        Check.due("-64 * 4096 / 400000", levelGainBelowZero(400000), -1);
        Check.due("-64 * 4096 / 180000", levelGainBelowZero(180000), -1);
        Check.due("-64 * 4096 / 170000", levelGainBelowZero(170000), -2);
    }

    private static int levelGainBelowZero(int s) {
        TankFilter t = Filters.withNegativeCovariance();
        t.setSensor(1, TankFilter.FLOW, s);
        t.correct(1, 0);
        return t.levelGain();
    }

    private static void divRoundsHalfOfTheDivisorDown() {
        // The half of 3 is 1: (4096 + 1) / 3 is less than 1366, (4096 + 2) / 3 would not be.
        Check.due("4096 / 3", gainOf(1, 2), 1365);
        Check.due("3 * 4096 / 5", gainOf(3, 2), 2458);
        Check.due("2 * 4096 / 5", gainOf(2, 3), 1638);
        Check.due("0 / 1", gainOf(0, 1), 0);
    }

    private static void endOfTheLimit(int sign) {
        TankFilter t = Filters.atTheLimit(sign);
        Check.due("level()", t.level(), sign * Filters.LIMIT);
        Check.overflows("predict() out of the limit", t, () -> t.predict(sign));
    }

    private static void firstLevelNoise() {
        TankFilter t = new TankFilter();
        t.predict(0);
        Check.due("levelVariance()", t.levelVariance(), 4096 + 4096);
    }

    private static void firstFlowNoise() {
        TankFilter t = new TankFilter();
        t.predict(0);
        Check.due("flowVariance()", t.flowVariance(), 4096 + 64);
        Check.due("setProcessNoise(0, 0)", t.setProcessNoise(0, 0), 64);
    }

    private static void fourSensors() {
        for (int i = 0; i < 4; i++) {
            TankFilter t = new TankFilter();
            Check.due("correct(" + i + ", 0)", t.correct(i, 0), 1);
        }
        TankFilter t = new TankFilter();
        Check.invalid("correct(-1, 0)", t, () -> t.correct(-1, 0));
        Check.invalid("correct(4, 0)", t, () -> t.correct(4, 0));
    }

    private static void firstKinds() {
        for (int i = 0; i < 4; i++) {
            TankFilter t = new TankFilter();
            t.correct(i, 2);
            Check.state("correct(" + i + ", 2)", t, 1, 0, 2048, 0, 4096);
        }
    }

    private static void firstVariances() {
        TankFilter t = new TankFilter();
        for (int i = 0; i < 4; i++) {
            Check.due("setSensor(" + i + ", FLOW, 1)", t.setSensor(i, TankFilter.FLOW, 1), 4096);
        }
    }

    private static void firstGate() {
        TankFilter t = new TankFilter();
        // The square of 17377 is just in 9 * 8192 * 4096.
        Check.due("correct(0, 17378)", t.correct(0, 17378), 0);
        Check.due("correct(0, 17377)", t.correct(0, 17377), 1);
        Check.due("setGate(0)", t.setGate(0), 9);
    }

    /** The readings 1 to count; the replay's sum is the sum of those that are kept. */
    private static TankFilter afterReadings(int count) {
        TankFilter t = Filters.quiet(0, 0, 0, 0);
        for (int i = 1; i <= count; i++) {
            t.correct(0, i);
        }
        return t;
    }

    private static void historyHas24Entries() {
        TankFilter t = afterReadings(24);
        Check.due("historyLength()", t.historyLength(), 24);
        Check.due("replayError(0)", t.replayError(0), 300);
        t.predict(0);
        Check.due("historyLength()", t.historyLength(), 24);
    }

    private static void oldestReadingIsDropped() {
        Check.due("replayError(0) of 25", afterReadings(25).replayError(0), 300 + 25 - 1);
        Check.due("replayError(0) of 26", afterReadings(26).replayError(0), 300 + 25 + 26 - 1 - 2);
        TankFilter t = afterReadings(1);
        for (int i = 0; i < 23; i++) {
            t.predict(0);
        }
        Check.due("replayError(0) of 1", t.replayError(0), 1);
        t.predict(0);
        Check.rejected("replayError(0) of predictions", t, () -> t.replayError(0));
    }

    private static void oldestPredictionIsDropped() {
        TankFilter t = Filters.quiet(0, 0, 0, 0);
        t.predict(1000);
        t.reset(0, 0, 0, 0);
        t.predict(100);
        t.predict(10);
        for (int i = 0; i < 21; i++) {
            t.predict(0);
        }
        t.correct(0, 0);
        Check.due("replayError(0)", t.replayError(0), 2 * 110);
        t.predict(0);
        Check.due("replayError(0)", t.replayError(0), 110 + 10);
        t.predict(0);
        Check.due("replayError(0)", t.replayError(0), 110);
    }

    private static void rejectedReadingsAreRecorded() {
        TankFilter t = Filters.quiet(0, 0, 0, 0);
        Check.due("correct(0, 40960000)", t.correct(0, 40960000), 0);
        Check.due("historyLength()", t.historyLength(), 1);
        Check.due("replayError(0)", t.replayError(0), 40960000);
    }

    private static void historyBeginsWithReset() {
        TankFilter t = afterReadings(30);
        t.reset(0, 0, 0, 0);
        Check.due("historyLength()", t.historyLength(), 0);
        t.correct(0, 5);
        Check.due("historyLength()", t.historyLength(), 1);
        Check.due("replayError(0)", t.replayError(0), 5);
    }

    private static void missedReadingsAreNotRecorded() {
        TankFilter t = afterReadings(24);
        t.miss(0);
        Check.due("historyLength()", t.historyLength(), 24);
        Check.due("replayError(0)", t.replayError(0), 300);
        t.reset(0, 0, 0, 0);
        t.miss(3);
        Check.due("historyLength()", t.historyLength(), 0);
    }

    private static void failedPredictionsAreNotRecorded() {
        TankFilter t = Filters.quiet(0, 1, 40960000, 40960000);
        t.predict(0);
        t.predict(0);
        t.predict(0);
        t.predict(0);
        Check.overflows("predict(5)", t, () -> t.predict(5));
        Check.due("historyLength()", t.historyLength(), 4);
    }

    private static void failedCorrectionsAreNotRecorded() {
        TankFilter t = Filters.swinging(0);
        Check.due("historyLength()", t.historyLength(), 24);
        Check.overflows("correct(1, 40960000)", t, () -> t.correct(1, 40960000));
        Check.rejected("replayError(0) of predictions", t, () -> t.replayError(0));
    }

    private static void severalWrongArguments() {
        TankFilter t = new TankFilter();
        Check.invalid("reset()", t, () -> t.reset(40960001, 4096001, -1, -1));
        Check.invalid("setProcessNoise()", t, () -> t.setProcessNoise(-1, -1));
        Check.invalid("setSensor()", t, () -> t.setSensor(4, 2, 0));
        Check.invalid("correct()", t, () -> t.correct(4, 40960001));
        Check.invalid("steadyGain()", t, () -> t.steadyGain(4, 2));
    }

    private static void invalidBeforeRejected() {
        TankFilter t = new TankFilter();
        Check.rejected("replayError(0)", t, () -> t.replayError(0));
        Check.invalid("replayError(-1)", t, () -> t.replayError(-1));
        Check.invalid("replayError(4096001)", t, () -> t.replayError(4096001));
    }

    private static void invalidBeforeOverflow() {
        TankFilter t = Filters.atTheLimit(1);
        Check.overflows("predict(1)", t, () -> t.predict(1));
        Check.invalid("predict(4096001)", t, () -> t.predict(4096001));
        t.setProcessNoise(0, 4096000);
        Check.overflows("forecast(100)", t, () -> t.forecast(100));
        Check.invalid("forecast(101)", t, () -> t.forecast(101));
        Check.overflows("forecastVariance(100)", t, () -> t.forecastVariance(100));
        Check.invalid("forecastVariance(101)", t, () -> t.forecastVariance(101));
        TankFilter s = Filters.swinging(0);
        Check.overflows("correct(1, 40960000)", s, () -> s.correct(1, 40960000));
        Check.invalid("correct(1, 40960001)", s, () -> s.correct(1, 40960001));
        s.setGate(9);
        Check.due("correct(1, 40960000)", s.correct(1, 40960000), 0);
        Check.overflows("replayError(4096000)", s, () -> s.replayError(4096000));
        Check.invalid("replayError(4096001)", s, () -> s.replayError(4096001));
    }

    private static void rejectedBeforeOverflow() {
        TankFilter t = Filters.quiet(0, 0, 0, 0);
        for (int i = 0; i < 24; i++) {
            t.predict(0);
        }
        // The noise 4096000 would let the replay of the predictions fail.
        Check.rejected("replayError(4096000)", t, () -> t.replayError(4096000));
        t.correct(0, 0);
        Check.overflows("replayError(4096000)", t, () -> t.replayError(4096000));
    }

    private static void invalidBeforeNone() {
        TankFilter t = Filters.quiet(0, 0, 40960000, 40960000);
        t.setProcessNoise(4096000, 4096000);
        t.setSensor(0, TankFilter.FLOW, 40960000);
        Check.asks("steadyCycles(0)", t, TankFilter.NONE, () -> t.steadyCycles(0));
        Check.invalid("steadyCycles(4)", t, () -> t.steadyCycles(4));
        Check.asks("steadyGain(0, 1)", t, TankFilter.NONE, () -> t.steadyGain(0, 1));
        Check.invalid("steadyGain(0, 2)", t, () -> t.steadyGain(0, 2));
        Check.asks("stepsTo(40960000)", t, TankFilter.NONE, () -> t.stepsTo(40960000));
        Check.invalid("stepsTo(40960001)", t, () -> t.stepsTo(40960001));
    }

    private static void rejectedBeforeNone() {
        TankFilter t = Filters.quiet(0, 1, 40960000, 40960000);
        t.predict(0);
        t.predict(0);
        t.predict(0);
        // The replay of three more predictions fails, whatever the candidate.
        Check.rejected("bestFlowNoise()", t, t::bestFlowNoise);
        Check.due("correct(0, 40960000)", t.correct(0, 40960000), 0);
        Check.asks("bestFlowNoise()", t, TankFilter.NONE, t::bestFlowNoise);
    }
}
