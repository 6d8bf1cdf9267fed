import java.util.function.Consumer;

/** Promises 28 to 30, and "Undo" in the terms: undo, error counters and the digest. */
public final class UndoTest {
    private static final long NONE = TankFilter.NONE;

    public static void main(String[] args) {
        promise28();
        undoRestores();
        callsThatSaveNothing();
        promise29();
        promise30();
        Check.end();
    }

    private static void promise28() {
        Check.sentence("28: restores the latest saved state and removes it", UndoTest::undoGoesBack);
        Check.sentence("28: answers the number that is left", UndoTest::undoAnswersTheRest);
        Check.sentence("28: REJECTED if the stack is empty", UndoTest::undoOfAnEmptyStack);
        Check.sentence("28: REJECTED when all is undone", UndoTest::undoOfAnEmptiedStack);
        Check.sentence("28: undo() is not undoable itself", UndoTest::undoIsNotUndoable);
        Check.sentence("the stack keeps the latest 4 saved states", UndoTest::stackKeepsFour);
        Check.sentence("the stack drops older states", UndoTest::stackDropsOlderOnes);
        Check.sentence("the stack takes states again after undo()", UndoTest::stackTakesStatesAgain);
    }

    private static void undoRestores() {
        Check.sentence("undo() restores x, v, a, b and c", UndoTest::stateIsRestored);
        Check.sentence("undo() restores q and w", UndoTest::noiseIsRestored);
        Check.sentence("undo() restores each sensor", UndoTest::sensorsAreRestored);
        Check.sentence("undo() restores the gate", UndoTest::gateIsRestored);
        Check.sentence("undo() restores the history that a reset() emptied", UndoTest::historyIsRestored);
        Check.sentence("undo() restores the entries that were dropped", UndoTest::droppedEntriesAreRestored);
        Check.sentence("undo() restores the counters of readings", UndoTest::countersAreRestored);
        Check.sentence("undo() restores the innovation and the gains", UndoTest::latestReadingIsRestored);
        Check.sentence("undo() does not restore the error counters", UndoTest::errorCountersStay);
        Check.sentence("the saved state is the one from before the call", UndoTest::stateBeforeTheCall);
    }

    private static void callsThatSaveNothing() {
        Check.sentence("a call that is INVALID saves nothing", UndoTest::invalidCallsSaveNothing);
        Check.sentence("a prediction that fails saves nothing", UndoTest::failedPredictionSavesNothing);
        Check.sentence("a correction that fails saves nothing", UndoTest::failedCorrectionSavesNothing);
        Check.sentence("questions save nothing", UndoTest::questionsSaveNothing);
    }

    private static void promise29() {
        Check.sentence("29: kind 0 to 2", UndoTest::errorKinds);
        Check.sentence("29: a wrong kind is counted, too", UndoTest::wrongKindIsCounted);
        Check.sentence("29: 0 counts INVALID", UndoTest::invalidIsCounted);
        Check.sentence("29: 1 counts REJECTED", UndoTest::rejectedIsCounted);
        Check.sentence("29: 2 counts OVERFLOW", UndoTest::overflowIsCounted);
        Check.sentence("29: NONE is not counted", UndoTest::noneIsNotCounted);
        Check.sentence("29: reset() does not change the counters", UndoTest::resetKeepsTheErrors);
    }

    private static void promise30() {
        Check.sentence("30: the digest of a new object", UndoTest::digestOfANewObject);
        Check.sentence("30: the digest changes nothing", UndoTest::digestChangesNothing);
        Check.sentence("30: each value at its place", UndoTest::digestOfManyValues);
        Check.sentence("30: the error counters first, in their order", UndoTest::digestOfErrors);
        Check.sentence("30: a full history, from the oldest entry on", UndoTest::digestOfAFullHistory);
        Check.sentence("30: values below zero, and long arithmetic that wraps", UndoTest::digestBelowZero);
    }

    private static void undoGoesBack() {
        TankFilter t = new TankFilter();
        t.predict(1);
        t.predict(2);
        t.undo();
        Check.due("level()", t.level(), 1);
        t.predict(3);
        Check.due("level()", t.level(), 4);
        t.undo();
        Check.due("level()", t.level(), 1);
        t.undo();
        Check.state("undo()", t, 0, 0, 4096, 0, 4096);
    }

    private static void undoAnswersTheRest() {
        TankFilter t = new TankFilter();
        t.setGate(1);
        t.setGate(2);
        t.setGate(3);
        t.setGate(4);
        Check.due("undo()", t.undo(), 3);
        Check.due("undo()", t.undo(), 2);
        Check.due("undo()", t.undo(), 1);
        Check.due("undo()", t.undo(), 0);
    }

    private static void undoOfAnEmptyStack() {
        TankFilter t = new TankFilter();
        Check.rejected("undo()", t, t::undo);
        Check.rejected("undo() again", t, t::undo);
    }

    private static void undoOfAnEmptiedStack() {
        TankFilter t = new TankFilter();
        t.setGate(1);
        t.undo();
        Check.rejected("undo()", t, t::undo);
        Check.due("setGate(2)", t.setGate(2), 9);
        Check.due("undo()", t.undo(), 0);
    }

    private static void undoIsNotUndoable() {
        TankFilter t = new TankFilter();
        t.setGate(1);
        t.setGate(2);
        Check.due("undo()", t.undo(), 1);
        Check.due("undo()", t.undo(), 0);
        Check.due("setGate(3)", t.setGate(3), 9);
    }

    private static void stackKeepsFour() {
        TankFilter t = new TankFilter();
        for (int i = 1; i <= 4; i++) {
            t.setGate(i);
        }
        for (int i = 0; i < 4; i++) {
            t.undo();
        }
        Check.due("setGate(0) after four calls and four undos", t.setGate(0), 9);
    }

    private static void stackDropsOlderOnes() {
        TankFilter t = new TankFilter();
        for (int i = 1; i <= 5; i++) {
            t.setGate(i);
        }
        Check.due("undo()", t.undo(), 3);
        t.undo();
        t.undo();
        t.undo();
        Check.rejected("undo() of the first of five calls", t, t::undo);
        Check.due("setGate(0)", t.setGate(0), 1);
    }

    private static void stackTakesStatesAgain() {
        TankFilter t = new TankFilter();
        for (int i = 1; i <= 11; i++) {
            t.setGate(i);
        }
        Check.due("undo()", t.undo(), 3);
        Check.due("undo()", t.undo(), 2);
        Check.due("setGate(20)", t.setGate(20), 9);
        Check.due("setGate(21)", t.setGate(21), 20);
        Check.due("setGate(22)", t.setGate(22), 21);
        for (int left = 3; left >= 0; left--) {
            Check.due("undo()", t.undo(), left);
        }
        Check.due("undo()", t.undo(), TankFilter.REJECTED);
        Check.due("setGate(0)", t.setGate(0), 8);
    }

    private static void stateIsRestored() {
        TankFilter t = new TankFilter();
        t.predict(0);
        t.correct(0, 8192);
        t.reset(1, 2, 3, 4);
        t.undo();
        Check.state("undo() of reset()", t, 5462, 2730, 2730, 1365, 2795);
        t.undo();
        Check.state("undo() of correct()", t, 0, 0, 8192, 4096, 4160);
        t.undo();
        Check.state("undo() of predict()", t, 0, 0, 4096, 0, 4096);
    }

    private static void noiseIsRestored() {
        TankFilter t = new TankFilter();
        t.setProcessNoise(5, 6);
        t.setProcessNoise(7, 8);
        t.undo();
        t.reset(0, 0, 0, 0);
        t.predict(0);
        Check.state("predict(0)", t, 0, 0, 5, 0, 6);
    }

    private static void sensorsAreRestored() {
        for (int i = 0; i < 4; i++) {
            TankFilter t = new TankFilter();
            t.reset(10, 20, 0, 0);
            t.setSensor(i, TankFilter.FLOW, 5);
            t.setSensor(i, TankFilter.LEVEL, 6);
            t.undo();
            t.correct(i, 0);
            Check.due("innovation() of a flow reading", t.innovation(), -20);
            Check.due("setSensor()", t.setSensor(i, TankFilter.FLOW, 7), 5);
            t.undo();
            t.undo();
            t.undo();
            t.correct(i, 0);
            Check.due("innovation() of a level reading", t.innovation(), -10);
            Check.due("setSensor()", t.setSensor(i, TankFilter.FLOW, 8), 4096);
        }
    }

    private static void gateIsRestored() {
        TankFilter t = new TankFilter();
        t.setGate(0);
        t.undo();
        Check.due("correct(0, 40960000)", t.correct(0, 40960000), 0);
        Check.due("setGate(1)", t.setGate(1), 9);
    }

    private static void historyIsRestored() {
        TankFilter t = Filters.quiet(0, 0, 0, 0);
        for (int i = 1; i <= 25; i++) {
            t.correct(0, i);
        }
        t.reset(0, 0, 0, 0);
        t.correct(0, 5);
        t.undo();
        Check.due("historyLength() after reset()", t.historyLength(), 0);
        t.undo();
        Check.due("historyLength()", t.historyLength(), 24);
        Check.due("replayError(0)", t.replayError(0), 25 * 26 / 2 - 1);
    }

    private static void droppedEntriesAreRestored() {
        TankFilter t = new TankFilter();
        for (int i = 0; i < 12; i++) {
            t.predict(i);
            t.correct(i % 4, 10 * i);
        }
        long before = t.digest();
        t.correct(3, 200);
        t.predict(100);
        t.correct(2, 300);
        for (int i = 0; i < 3; i++) {
            t.undo();
        }
        // As many states as before are on the stack again.
        for (int i = 0; i < 3; i++) {
            t.setGate(9);
        }
        Check.due("digest()", t.digest(), before);
    }

    private static void countersAreRestored() {
        TankFilter t = new TankFilter();
        t.correct(0, 0);
        t.correct(0, 40960000);
        t.correct(0, 40960000);
        t.miss(0);
        t.miss(0);
        t.miss(0);
        t.reset(0, 0, 0, 0);
        t.undo();
        Check.due("accepted()", t.accepted(), 1);
        Check.due("rejected()", t.rejected(), 2);
        Check.due("missed()", t.missed(), 3);
    }

    private static void latestReadingIsRestored() {
        TankFilter t = new TankFilter();
        t.predict(0);
        t.correct(0, 8192);
        t.correct(0, 7000);
        t.undo();
        Check.due("innovation()", t.innovation(), 8192);
        Check.due("levelGain()", t.levelGain(), 2731);
        Check.due("flowGain()", t.flowGain(), 1365);
        t.undo();
        Check.due("innovation()", t.innovation(), NONE);
        Check.due("levelGain()", t.levelGain(), NONE);
        Check.due("flowGain()", t.flowGain(), NONE);
    }

    private static void errorCountersStay() {
        TankFilter t = new TankFilter();
        t.undo();
        t.reset(0, 0, 40960000, 40960000);
        t.setGate(26);
        t.forecast(100);
        t.undo();
        Check.due("errorCount(0)", t.errorCount(0), 1);
        Check.due("errorCount(1)", t.errorCount(1), 1);
        Check.due("errorCount(2)", t.errorCount(2), 1);
    }

    private static void stateBeforeTheCall() {
        TankFilter t = new TankFilter();
        for (int i = 1; i <= 6; i++) {
            t.predict(i);
        }
        t.miss(2);
        long before = t.digest();
        t.predict(8);
        t.setGate(26);
        t.undo();
        // A wrong call between has grown errorCount(0), and the stack has one state less.
        int values = 26 + 2 * t.historyLength();
        long due = before + Check.power(31, values) - Check.power(31, values - 3);
        Check.due("digest()", t.digest(), due);
    }

    /** The stack holds nothing before these calls and nothing after them. */
    private static void savesNothing(TankFilter t, Consumer<TankFilter> calls) {
        while (t.undo() != TankFilter.REJECTED) {
            Check.due("errorCount(1)", t.errorCount(1), 0);
        }
        calls.accept(t);
        Check.due("undo()", t.undo(), TankFilter.REJECTED);
    }

    private static void invalidCallsSaveNothing() {
        savesNothing(new TankFilter(), t -> t.reset(0, 0, -1, 0));
        savesNothing(new TankFilter(), t -> t.setProcessNoise(-1, 0));
        savesNothing(new TankFilter(), t -> t.setSensor(0, 2, 1));
        savesNothing(new TankFilter(), t -> t.setGate(26));
        savesNothing(new TankFilter(), t -> t.predict(4096001));
        savesNothing(new TankFilter(), t -> t.correct(4, 0));
        savesNothing(new TankFilter(), t -> t.miss(4));
    }

    private static void failedPredictionSavesNothing() {
        TankFilter t = Filters.quiet(0, 1, 40960000, 40960000);
        for (int i = 0; i < 4; i++) {
            t.predict(0);
        }
        Check.due("predict(0)", t.predict(0), TankFilter.OVERFLOW);
        Check.due("predict(5)", t.predict(5), TankFilter.OVERFLOW);
        Check.due("undo()", t.undo(), 3);
        Check.due("level()", t.level(), 3);
    }

    private static void failedCorrectionSavesNothing() {
        TankFilter t = Filters.swinging(0);
        t.predict(1);
        Check.due("correct(1, 40960000)", t.correct(1, 40960000), TankFilter.OVERFLOW);
        Check.due("correct(1, -40960000)", t.correct(1, -40960000), TankFilter.OVERFLOW);
        Check.due("undo()", t.undo(), 3);
        Check.due("level()", t.level(), 0);
    }

    private static void questionsSaveNothing() {
        savesNothing(new TankFilter(), t -> {
            t.level();
            t.innovation();
            t.historyLength();
            t.forecast(3);
            t.forecastVariance(3);
            t.stepsTo(3);
            t.steadyCycles(0);
            t.steadyGain(0, 0);
            t.replayError(0);
            t.bestFlowNoise();
            t.errorCount(0);
            t.digest();
        });
    }

    private static void errorKinds() {
        TankFilter t = new TankFilter();
        Check.range("errorCount(n)", t, 0, 2, t::errorCount);
    }

    private static void wrongKindIsCounted() {
        TankFilter t = new TankFilter();
        Check.due("errorCount(3)", t.errorCount(3), TankFilter.INVALID);
        Check.due("errorCount(0)", t.errorCount(0), 1);
        Check.due("errorCount(-1)", t.errorCount(-1), TankFilter.INVALID);
        Check.due("errorCount(0)", t.errorCount(0), 2);
    }

    private static void counts(TankFilter t, int invalid, int rejected, int overflow) {
        Check.asks("errorCount(0)", t, invalid, () -> t.errorCount(0));
        Check.asks("errorCount(1)", t, rejected, () -> t.errorCount(1));
        Check.asks("errorCount(2)", t, overflow, () -> t.errorCount(2));
    }

    private static void invalidIsCounted() {
        TankFilter t = new TankFilter();
        t.setGate(26);
        t.setGate(26);
        t.predict(4096001);
        counts(t, 3, 0, 0);
    }

    private static void rejectedIsCounted() {
        TankFilter t = new TankFilter();
        t.undo();
        t.replayError(0);
        t.bestFlowNoise();
        counts(t, 0, 3, 0);
    }

    private static void overflowIsCounted() {
        TankFilter t = Filters.quiet(0, 0, 40960000, 40960000);
        t.forecast(100);
        t.forecastVariance(100);
        counts(t, 0, 0, 2);
        // A reading that the gate rejects is no error.
        Check.due("correct(0, -40960000)", t.correct(0, -40960000), 0);
        counts(t, 0, 0, 2);
    }

    private static void noneIsNotCounted() {
        TankFilter t = Filters.quiet(0, 0, 40960000, 40960000);
        t.setProcessNoise(4096000, 4096000);
        t.setSensor(0, TankFilter.FLOW, 40960000);
        Check.due("innovation()", t.innovation(), NONE);
        Check.due("levelGain()", t.levelGain(), NONE);
        Check.due("flowGain()", t.flowGain(), NONE);
        Check.due("stepsTo(1)", t.stepsTo(1), NONE);
        Check.due("steadyCycles(0)", t.steadyCycles(0), NONE);
        Check.due("steadyGain(0, 0)", t.steadyGain(0, 0), NONE);
        counts(t, 0, 0, 0);
    }

    private static void resetKeepsTheErrors() {
        TankFilter t = new TankFilter();
        t.setGate(26);
        t.undo();
        t.reset(0, 0, 40960000, 40960000);
        t.forecast(100);
        t.reset(0, 0, 0, 0);
        counts(t, 1, 1, 1);
    }

    private static long hash(long... values) {
        long h = 12254;
        for (long v : values) {
            h = 31 * h + v;
        }
        return h;
    }

    private static void digestOfANewObject() {
        Check.due("digest()", new TankFilter().digest(), hash(0, 0, 0, 0, 0, 0, 4096, 0, 4096, 0, 64, 9,
                0, 4096, 0, 4096, 0, 4096, 0, 4096, NONE, NONE, NONE, 0, 0, 0, 0));
    }

    private static void digestChangesNothing() {
        TankFilter t = new TankFilter();
        t.predict(5);
        long once = t.digest();
        Check.due("digest() again", t.digest(), once);
    }

    private static void digestOfManyValues() {
        TankFilter t = new TankFilter();
        t.setProcessNoise(0, 64);
        t.setSensor(1, TankFilter.FLOW, 500);
        t.setSensor(3, TankFilter.LEVEL, 600);
        t.predict(-5);
        t.predict(5);
        t.reset(0, 0, 4096, 4096);
        t.predict(0);
        t.correct(0, 8192);
        t.correct(2, -40960000);
        t.miss(3);
        t.setGate(26);
        t.setGate(26);
        t.setGate(26);
        t.forecast(101);
        t.setGate(26);
        t.reset(0, 0, 0, -1);
        t.undo();
        // Three states are left on the stack, and miss(3) is undone.
        Check.due("digest()", t.digest(), hash(6, 0, 0, 3, 5462, 2730, 2730, 1365, 2795, 0, 64, 9,
                0, 4096, 1, 500, 0, 4096, 0, 600,
                -40960000 - 5462, 2731, 1365, 1, 1, 0, 3, -1, 0, 0, 8192, 2, -40960000));
        t.setProcessNoise(17, 18);
        t.setGate(7);
        t.miss(0);
        t.miss(0);
        Check.due("digest()", t.digest(), hash(6, 0, 0, 4, 5462, 2730, 2730, 1365, 2795, 17, 18, 7,
                0, 4096, 1, 500, 0, 4096, 0, 600,
                -40960000 - 5462, 2731, 1365, 1, 1, 2, 3, -1, 0, 0, 8192, 2, -40960000));
    }

    private static void digestOfErrors() {
        TankFilter t = new TankFilter();
        t.reset(0, 0, 40960000, 40960000);
        t.setGate(26);
        t.setGate(26);
        t.setGate(26);
        t.bestFlowNoise();
        t.bestFlowNoise();
        t.forecast(100);
        Check.due("digest()", t.digest(), hash(3, 2, 1, 1, 0, 0, 40960000, 0, 40960000, 0, 64, 9,
                0, 4096, 0, 4096, 0, 4096, 0, 4096, NONE, NONE, NONE, 0, 0, 0, 0));
    }

    private static void digestOfAFullHistory() {
        TankFilter t = new TankFilter();
        t.setProcessNoise(0, 0);
        t.reset(0, 0, 0, 0);
        long[] values = new long[27 + 48];
        long[] first = {0, 0, 0, 4, 0, 0, 0, 0, 0, 0, 0, 9, 0, 4096, 0, 4096, 0, 4096, 0, 4096,
            26, 0, 0, 13, 0, 0, 24};
        System.arraycopy(first, 0, values, 0, 27);
        int level = 0;
        for (int i = 1; i <= 26; i++) {
            boolean reading = i % 2 == 0;
            if (reading) {
                t.correct(i % 4, level + i);
            } else {
                t.predict(-i);
                level -= i;
            }
            if (i > 2) {
                values[27 + 2 * (i - 3)] = reading ? i % 4 : -1;
                values[27 + 2 * (i - 3) + 1] = reading ? level + i : -i;
            }
        }
        values[4] = level;
        Check.due("digest()", t.digest(), hash(values));
    }

    private static void digestBelowZero() {
        TankFilter t = new TankFilter();
        t.setProcessNoise(0, 0);
        t.reset(-40960000, -4096000, 0, 0);
        t.predict(-4096000);
        Check.due("digest()", t.digest(), hash(0, 0, 0, 3, -49152000, -4096000, 0, 0, 0, 0, 0, 9,
                0, 4096, 0, 4096, 0, 4096, 0, 4096, NONE, NONE, NONE, 0, 0, 0, 1, -1, -4096000));
    }
}
