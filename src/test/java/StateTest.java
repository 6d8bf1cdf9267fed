/** Promises 9 to 20: what the state answers. */
public final class StateTest {
    private static final int NONE = TankFilter.NONE;

    public static void main(String[] args) {
        promises9To13();
        promise14();
        promises15And16();
        promises17To19();
        promise20();
        Check.sentence("9 to 20: questions change nothing", StateTest::questionsChangeNothing);
        Check.end();
    }

    private static void promises9To13() {
        Check.sentence("9: level() is x", StateTest::level);
        Check.sentence("10: flow() is v", StateTest::flow);
        Check.sentence("11: levelVariance() is a", StateTest::levelVariance);
        Check.sentence("12: covariance() is b", StateTest::covariance);
        Check.sentence("13: flowVariance() is c", StateTest::flowVariance);
    }

    private static void promise14() {
        Check.sentence("14: NONE if there was no reading", StateTest::noInnovation);
        Check.sentence("14: NONE if there was no reading since reset()", StateTest::noInnovationSinceReset);
        Check.sentence("14: NONE again when the first reading is undone", StateTest::noInnovationAfterUndo);
        Check.sentence("14: of an accepted reading", StateTest::acceptedInnovation);
        Check.sentence("14: of a rejected reading", StateTest::rejectedInnovation);
        Check.sentence("14: of the latest reading", StateTest::latestInnovation);
        Check.sentence("14: a reading that fails leaves it", StateTest::innovationAfterFailures);
    }

    private static void promises15And16() {
        Check.sentence("15: NONE if there was no reading", () -> noGains(new TankFilter()));
        Check.sentence("15: NONE if only rejected readings were there", StateTest::noGainsOfRejectedReadings);
        Check.sentence("15: NONE if there was no reading since reset()", StateTest::noGainsSinceReset);
        Check.sentence("15: NONE again when the first reading is undone", StateTest::noGainsAfterUndo);
        Check.sentence("15: the gain k of the latest accepted reading", StateTest::latestLevelGain);
        Check.sentence("15: a gain of 0 is not NONE", StateTest::levelGainOfZero);
        Check.sentence("16: the gain l of the latest accepted reading", StateTest::latestFlowGain);
        Check.sentence("16: a gain of 0 is not NONE", StateTest::flowGainOfZero);
        Check.sentence("16: a rejected reading leaves the gains", StateTest::gainsAfterARejectedReading);
        Check.sentence("16: a reading that fails leaves the gains", StateTest::gainsAfterFailures);
    }

    private static void promises17To19() {
        Check.sentence("17: the accepted readings since reset()", StateTest::accepted);
        Check.sentence("18: the rejected readings since reset()", StateTest::rejected);
        Check.sentence("19: the missed readings since reset()", StateTest::missed);
        Check.sentence("17 to 19: counters count on when the history is full", StateTest::countersPassTheHistory);
        Check.sentence("17 to 19: refused calls are not counted", StateTest::refusedCallsAreNotCounted);
        Check.sentence("17 to 19: undo() takes them back", StateTest::undoneReadingsAreNotCounted);
    }

    private static void promise20() {
        Check.sentence("20: 0 entries", StateTest::noEntries);
        Check.sentence("20: up to 24 entries", StateTest::historyGrows);
        Check.sentence("20: undo() takes an entry back", StateTest::historyAfterUndo);
        Check.sentence("20: undo() brings a dropped entry back", StateTest::droppedEntryAfterUndo);
    }

    private static void level() {
        TankFilter t = Filters.quiet(-11, 12, 13, 14);
        Check.due("level()", t.level(), -11);
        t.predict(0);
        Check.due("level()", t.level(), 1);
        Check.due("level() at the limit", Filters.atTheLimit(1).level(), Filters.LIMIT);
    }

    private static void flow() {
        TankFilter t = Filters.quiet(11, -12, 13, 14);
        Check.due("flow()", t.flow(), -12);
        t.setSensor(1, TankFilter.FLOW, 14);
        t.correct(1, -2);
        Check.due("flow()", t.flow(), -7);
    }

    private static void levelVariance() {
        TankFilter t = Filters.quiet(11, 12, 13, 14);
        Check.due("levelVariance()", t.levelVariance(), 13);
        t.predict(0);
        Check.due("levelVariance()", t.levelVariance(), 27);
    }

    private static void covariance() {
        TankFilter t = Filters.quiet(11, 12, 13, 14);
        Check.due("covariance()", t.covariance(), 0);
        t.predict(0);
        Check.due("covariance()", t.covariance(), 14);
        Check.due("covariance() below zero", Filters.withNegativeCovariance().covariance(), -64);
    }

    private static void flowVariance() {
        TankFilter t = Filters.quiet(11, 12, 13, 14);
        t.setProcessNoise(0, 5);
        Check.due("flowVariance()", t.flowVariance(), 14);
        t.predict(0);
        Check.due("flowVariance()", t.flowVariance(), 19);
    }

    private static void noInnovation() {
        TankFilter t = new TankFilter();
        Check.due("innovation()", t.innovation(), NONE);
        t.predict(0);
        t.miss(0);
        Check.due("innovation() after miss(0)", t.innovation(), NONE);
        t.correct(4, 0);
        t.correct(0, 40960001);
        Check.due("innovation() after INVALID", t.innovation(), NONE);
    }

    private static void noInnovationSinceReset() {
        TankFilter t = new TankFilter();
        t.correct(0, 5);
        t.reset(0, 0, 0, 0);
        Check.due("innovation() after reset()", t.innovation(), NONE);
        t.undo();
        Check.due("innovation() after undo() of reset()", t.innovation(), 5);
    }

    private static void noInnovationAfterUndo() {
        TankFilter t = new TankFilter();
        t.correct(0, 5);
        t.undo();
        Check.due("innovation()", t.innovation(), NONE);
    }

    private static void acceptedInnovation() {
        TankFilter t = Filters.quiet(100, 7, 0, 0);
        t.correct(0, 90);
        Check.due("innovation() of a level reading", t.innovation(), -10);
        t.correct(1, 50);
        Check.due("innovation() of a flow reading", t.innovation(), 43);
        t.correct(1, 7);
        Check.due("innovation() of 0", t.innovation(), 0);
    }

    private static void rejectedInnovation() {
        TankFilter t = Filters.quiet(100, 7, 0, 0);
        t.correct(0, 40960000);
        Check.due("innovation() of a level reading", t.innovation(), 40960000 - 100);
        t.correct(1, -40960000);
        Check.due("innovation() of a flow reading", t.innovation(), -40960000 - 7);
        Check.due("rejected()", t.rejected(), 2);
    }

    private static void latestInnovation() {
        TankFilter t = Filters.quiet(100, 7, 0, 0);
        t.correct(0, 40960000);
        t.correct(0, 105);
        Check.due("innovation() of the second", t.innovation(), 5);
        t.correct(0, -40960000);
        Check.due("innovation() of the third", t.innovation(), -40960000 - 100);
        t.predict(0);
        t.miss(1);
        t.setGate(1);
        Check.due("innovation() stays", t.innovation(), -40960000 - 100);
    }

    private static void innovationAfterFailures() {
        TankFilter t = Filters.swinging(0);
        Check.due("correct(1, 40960000)", t.correct(1, 40960000), TankFilter.OVERFLOW);
        Check.due("innovation()", t.innovation(), NONE);
        t.setSensor(0, TankFilter.LEVEL, 40960000);
        t.correct(0, 3);
        Check.due("correct(1, 40960000)", t.correct(1, 40960000), TankFilter.OVERFLOW);
        Check.due("innovation()", t.innovation(), 3);
        t.correct(4, 0);
        Check.due("innovation() after INVALID", t.innovation(), 3);
    }

    private static void noGains(TankFilter t) {
        Check.due("levelGain()", t.levelGain(), NONE);
        Check.due("flowGain()", t.flowGain(), NONE);
    }

    private static void noGainsOfRejectedReadings() {
        TankFilter t = new TankFilter();
        t.correct(0, 40960000);
        Check.due("rejected()", t.rejected(), 1);
        noGains(t);
    }

    private static void noGainsSinceReset() {
        TankFilter t = new TankFilter();
        t.correct(0, 5);
        t.reset(0, 0, 0, 0);
        noGains(t);
        t.correct(0, 40960000);
        noGains(t);
    }

    private static void noGainsAfterUndo() {
        TankFilter t = new TankFilter();
        t.correct(0, 5);
        t.undo();
        noGains(t);
    }

    private static TankFilter withTwoReadings() {
        TankFilter t = new TankFilter();
        t.predict(0);
        t.correct(0, 8192);
        Check.due("levelGain()", t.levelGain(), 2731);
        Check.due("flowGain()", t.flowGain(), 1365);
        // a is 2730 and b is 1365 now.
        t.correct(0, 8192);
        return t;
    }

    private static void latestLevelGain() {
        TankFilter t = withTwoReadings();
        Check.due("levelGain()", t.levelGain(), (2730 * 4096 + 3413) / 6826);
        t.predict(0);
        t.miss(0);
        Check.due("levelGain() stays", t.levelGain(), (2730 * 4096 + 3413) / 6826);
    }

    private static void levelGainOfZero() {
        TankFilter t = Filters.quiet(0, 0, 0, 0);
        t.correct(0, 5);
        Check.due("levelGain()", t.levelGain(), 0);
    }

    private static void latestFlowGain() {
        TankFilter t = withTwoReadings();
        Check.due("flowGain()", t.flowGain(), (1365 * 4096 + 3413) / 6826);
        t.predict(0);
        t.miss(0);
        Check.due("flowGain() stays", t.flowGain(), (1365 * 4096 + 3413) / 6826);
    }

    private static void flowGainOfZero() {
        TankFilter t = Filters.quiet(0, 0, 0, 0);
        t.correct(0, 5);
        Check.due("flowGain()", t.flowGain(), 0);
    }

    private static void gainsAfterARejectedReading() {
        TankFilter t = new TankFilter();
        t.predict(0);
        t.correct(0, 8192);
        t.correct(0, -40960000);
        Check.due("rejected()", t.rejected(), 1);
        Check.due("levelGain()", t.levelGain(), 2731);
        Check.due("flowGain()", t.flowGain(), 1365);
    }

    private static void gainsAfterFailures() {
        TankFilter t = Filters.swinging(0);
        t.setSensor(0, TankFilter.LEVEL, 40960000);
        t.correct(0, 0);
        int levelGain = t.levelGain();
        int flowGain = t.flowGain();
        Check.due("correct(1, 40960000)", t.correct(1, 40960000), TankFilter.OVERFLOW);
        Check.due("levelGain()", t.levelGain(), levelGain);
        Check.due("flowGain()", t.flowGain(), flowGain);
    }

    private static void accepted() {
        TankFilter t = new TankFilter();
        t.correct(0, 0);
        t.correct(1, 0);
        t.correct(2, 40960000);
        t.miss(0);
        Check.due("accepted()", t.accepted(), 2);
        t.reset(0, 0, 0, 0);
        Check.due("accepted() after reset()", t.accepted(), 0);
        t.correct(3, 0);
        Check.due("accepted()", t.accepted(), 1);
    }

    private static void rejected() {
        TankFilter t = new TankFilter();
        t.correct(0, 40960000);
        t.correct(1, -40960000);
        t.correct(2, 0);
        t.miss(0);
        Check.due("rejected()", t.rejected(), 2);
        t.reset(0, 0, 0, 0);
        Check.due("rejected() after reset()", t.rejected(), 0);
        t.correct(3, 40960000);
        Check.due("rejected()", t.rejected(), 1);
    }

    private static void missed() {
        TankFilter t = new TankFilter();
        t.miss(0);
        t.miss(3);
        t.correct(0, 0);
        t.correct(0, 40960000);
        Check.due("missed()", t.missed(), 2);
        t.reset(0, 0, 0, 0);
        Check.due("missed() after reset()", t.missed(), 0);
        t.miss(1);
        Check.due("missed()", t.missed(), 1);
    }

    private static void countersPassTheHistory() {
        TankFilter t = new TankFilter();
        for (int i = 0; i < 30; i++) {
            t.correct(0, 0);
        }
        for (int i = 0; i < 29; i++) {
            t.correct(0, 40960000);
        }
        for (int i = 0; i < 28; i++) {
            t.miss(0);
        }
        Check.due("accepted()", t.accepted(), 30);
        Check.due("rejected()", t.rejected(), 29);
        Check.due("missed()", t.missed(), 28);
    }

    private static void refusedCallsAreNotCounted() {
        TankFilter t = Filters.swinging(0);
        t.correct(0, 40960001);
        t.correct(4, 0);
        t.correct(1, 40960000);
        t.miss(4);
        Check.due("errorCount(0)", t.errorCount(0), 3);
        Check.due("errorCount(2)", t.errorCount(2), 1);
        Check.due("accepted()", t.accepted(), 0);
        Check.due("rejected()", t.rejected(), 0);
        Check.due("missed()", t.missed(), 0);
    }

    private static void undoneReadingsAreNotCounted() {
        TankFilter t = new TankFilter();
        t.correct(0, 0);
        t.correct(0, 40960000);
        t.miss(0);
        t.undo();
        Check.due("missed()", t.missed(), 0);
        t.undo();
        Check.due("rejected()", t.rejected(), 0);
        t.undo();
        Check.due("accepted()", t.accepted(), 0);
    }

    private static void noEntries() {
        TankFilter t = new TankFilter();
        Check.due("historyLength()", t.historyLength(), 0);
        t.miss(0);
        t.setGate(0);
        t.setProcessNoise(0, 0);
        t.setSensor(0, 0, 1);
        t.forecast(1);
        t.predict(4096001);
        t.correct(4, 0);
        Check.due("historyLength()", t.historyLength(), 0);
    }

    private static void historyGrows() {
        TankFilter t = new TankFilter();
        t.predict(0);
        t.correct(0, 0);
        t.correct(0, 40960000);
        for (int i = 4; i <= 24; i++) {
            t.predict(i);
            Check.due("historyLength()", t.historyLength(), i);
        }
        t.predict(0);
        Check.due("historyLength() after 25", t.historyLength(), 24);
        t.correct(0, 0);
        Check.due("historyLength() after 26", t.historyLength(), 24);
    }

    private static void historyAfterUndo() {
        TankFilter t = new TankFilter();
        t.predict(0);
        t.correct(0, 0);
        t.undo();
        Check.due("historyLength()", t.historyLength(), 1);
        t.undo();
        Check.due("historyLength()", t.historyLength(), 0);
    }

    private static void droppedEntryAfterUndo() {
        TankFilter t = Filters.quiet(0, 0, 0, 0);
        for (int i = 1; i <= 24; i++) {
            t.correct(0, i);
        }
        t.correct(0, 0);
        t.correct(0, 0);
        Check.due("replayError(0)", t.replayError(0), 300 - 1 - 2);
        t.undo();
        Check.due("replayError(0)", t.replayError(0), 300 - 1);
        t.undo();
        Check.due("replayError(0)", t.replayError(0), 300);
        Check.due("historyLength()", t.historyLength(), 24);
    }

    private static void questionsChangeNothing() {
        TankFilter t = new TankFilter();
        t.predict(2);
        t.correct(0, 4);
        Check.asks("level()", t, 3, t::level);
        Check.asks("flow()", t, 1, t::flow);
        Check.asks("levelVariance()", t, 2730, t::levelVariance);
        Check.asks("covariance()", t, 1365, t::covariance);
        Check.asks("flowVariance()", t, 2795, t::flowVariance);
        Check.asks("innovation()", t, 2, t::innovation);
        Check.asks("levelGain()", t, 2731, t::levelGain);
        Check.asks("flowGain()", t, 1365, t::flowGain);
        Check.asks("accepted()", t, 1, t::accepted);
        Check.asks("rejected()", t, 0, t::rejected);
        Check.asks("missed()", t, 0, t::missed);
        Check.asks("historyLength()", t, 2, t::historyLength);
    }
}
