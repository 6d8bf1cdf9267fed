/** Promises 1 to 5: a new object and the settings. */
public final class SettingsTest {
    public static void main(String[] args) {
        promise1();
        promise2();
        promise3();
        promise4();
        promise5();
        Check.end();
    }

    private static void promise1() {
        Check.sentence("1: the initial state", SettingsTest::newState);
        Check.sentence("1: an empty history", SettingsTest::newHistory);
        Check.sentence("1: all counters 0", SettingsTest::newCounters);
        Check.sentence("1: an empty undo stack", SettingsTest::newUndoStack);
        Check.sentence("1: each object has a state of its own", SettingsTest::objectsAreApart);
    }

    private static void promise2() {
        Check.sentence("2: x, v, a and c become the arguments, b becomes 0", SettingsTest::resetSetsTheState);
        Check.sentence("2: the history becomes empty", SettingsTest::resetEmptiesTheHistory);
        Check.sentence("2: the counters of readings become 0", SettingsTest::resetClearsTheCounters);
        Check.sentence("2: the latest innovation and gains are forgotten", SettingsTest::resetForgets);
        Check.sentence("2: the settings and the error counters stay", SettingsTest::resetKeepsTheSettings);
        Check.sentence("2: level -40960000 to 40960000", SettingsTest::resetLevel);
        Check.sentence("2: flow -4096000 to 4096000", SettingsTest::resetFlow);
        Check.sentence("2: levelVariance 0 to 40960000", SettingsTest::resetLevelVariance);
        Check.sentence("2: flowVariance 0 to 40960000", SettingsTest::resetFlowVariance);
        Check.sentence("2: answers how many entries there were", SettingsTest::resetAnswersTheEntries);
        Check.sentence("2: undoable", SettingsTest::resetIsUndoable);
        Check.sentence("2: undoable, also if it changes nothing", SettingsTest::sameResetIsUndoable);
    }

    private static void promise3() {
        Check.sentence("3: sets the process noise", SettingsTest::noiseIsSet);
        Check.sentence("3: levelNoise 0 to 4096000", SettingsTest::levelNoise);
        Check.sentence("3: flowNoise 0 to 4096000", SettingsTest::flowNoise);
        Check.sentence("3: answers the previous w", SettingsTest::noiseAnswersThePrevious);
        Check.sentence("3: undoable", SettingsTest::noiseIsUndoable);
        Check.sentence("3: undoable, also if it changes nothing", SettingsTest::sameNoiseIsUndoable);
    }

    private static void promise4() {
        Check.sentence("4: sets the kind and the variance of a sensor", SettingsTest::sensorIsSet);
        Check.sentence("4: the other sensors stay", SettingsTest::otherSensorsStay);
        Check.sentence("4: sensor 0 to 3", SettingsTest::sensorNumber);
        Check.sentence("4: kind LEVEL or FLOW", SettingsTest::sensorKind);
        Check.sentence("4: variance 1 to 40960000", SettingsTest::sensorVariance);
        Check.sentence("4: answers the previous r", SettingsTest::sensorAnswersThePrevious);
        Check.sentence("4: undoable", SettingsTest::sensorIsUndoable);
        Check.sentence("4: undoable, also if it changes nothing", SettingsTest::sameSensorIsUndoable);
    }

    private static void promise5() {
        Check.sentence("5: sets the gate", SettingsTest::gateIsSet);
        Check.sentence("5: gate 0 to 25", SettingsTest::gateRange);
        Check.sentence("5: the gate 0 is no gate", SettingsTest::noGate);
        Check.sentence("5: the gate 1 is the narrowest", SettingsTest::narrowestGate);
        Check.sentence("5: the gate 25 is the widest", SettingsTest::widestGate);
        Check.sentence("5: answers the previous gate", SettingsTest::gateAnswersThePrevious);
        Check.sentence("5: undoable", SettingsTest::gateIsUndoable);
        Check.sentence("5: undoable, also if it changes nothing", SettingsTest::sameGateIsUndoable);
    }

    private static void newState() {
        TankFilter t = new TankFilter();
        Check.state("new", t, 0, 0, 4096, 0, 4096);
        Check.due("innovation()", t.innovation(), TankFilter.NONE);
        Check.due("levelGain()", t.levelGain(), TankFilter.NONE);
        Check.due("flowGain()", t.flowGain(), TankFilter.NONE);
        Check.due("setProcessNoise(0, 0)", t.setProcessNoise(0, 0), 64);
        Check.due("setGate(0)", t.setGate(0), 9);
        for (int i = 0; i < 4; i++) {
            Check.due("setSensor(" + i + ", FLOW, 1)", t.setSensor(i, TankFilter.FLOW, 1), 4096);
        }
    }

    private static void newHistory() {
        TankFilter t = new TankFilter();
        Check.due("historyLength()", t.historyLength(), 0);
        Check.rejected("replayError(0)", t, () -> t.replayError(0));
        Check.rejected("bestFlowNoise()", t, t::bestFlowNoise);
        Check.due("reset(0, 0, 0, 0)", t.reset(0, 0, 0, 0), 0);
    }

    private static void newCounters() {
        TankFilter t = new TankFilter();
        Check.due("accepted()", t.accepted(), 0);
        Check.due("rejected()", t.rejected(), 0);
        Check.due("missed()", t.missed(), 0);
        for (int kind = 0; kind < 3; kind++) {
            Check.due("errorCount(" + kind + ")", t.errorCount(kind), 0);
        }
    }

    private static void newUndoStack() {
        TankFilter t = new TankFilter();
        Check.rejected("undo()", t, t::undo);
        t.setGate(9);
        Check.due("undo()", t.undo(), 0);
    }

    private static void objectsAreApart() {
        TankFilter other = new TankFilter();
        long before = other.digest();
        TankFilter t = new TankFilter();
        t.predict(5);
        t.correct(0, 5);
        t.setSensor(0, TankFilter.FLOW, 5);
        t.setGate(26);
        Check.due("digest() of another object", other.digest(), before);
        Check.due("digest() of a new object", new TankFilter().digest(), before);
    }

    private static void resetSetsTheState() {
        TankFilter t = new TankFilter();
        t.predict(7);
        Check.due("covariance()", t.covariance(), 4096);
        t.reset(1, 2, 3, 4);
        Check.state("reset(1, 2, 3, 4)", t, 1, 2, 3, 0, 4);
        t.reset(-5, -6, 0, 0);
        Check.state("reset(-5, -6, 0, 0)", t, -5, -6, 0, 0, 0);
    }

    private static TankFilter withReadings() {
        TankFilter t = new TankFilter();
        t.predict(0);
        t.correct(0, 4096);
        t.correct(0, 40960000);
        t.miss(0);
        Check.due("accepted()", t.accepted(), 1);
        Check.due("rejected()", t.rejected(), 1);
        Check.due("missed()", t.missed(), 1);
        return t;
    }

    private static void resetEmptiesTheHistory() {
        TankFilter t = withReadings();
        t.reset(0, 0, 4096, 4096);
        Check.due("historyLength()", t.historyLength(), 0);
        Check.rejected("replayError(0)", t, () -> t.replayError(0));
    }

    private static void resetClearsTheCounters() {
        TankFilter t = withReadings();
        t.reset(0, 0, 4096, 4096);
        Check.due("accepted()", t.accepted(), 0);
        Check.due("rejected()", t.rejected(), 0);
        Check.due("missed()", t.missed(), 0);
    }

    private static void resetForgets() {
        TankFilter t = withReadings();
        t.reset(0, 0, 4096, 4096);
        Check.due("innovation()", t.innovation(), TankFilter.NONE);
        Check.due("levelGain()", t.levelGain(), TankFilter.NONE);
        Check.due("flowGain()", t.flowGain(), TankFilter.NONE);
    }

    private static void resetKeepsTheSettings() {
        TankFilter t = new TankFilter();
        t.setProcessNoise(5, 7);
        t.setSensor(3, TankFilter.FLOW, 99);
        t.setGate(4);
        Check.invalid("errorCount(3)", t, () -> t.errorCount(3));
        t.reset(0, 0, 0, 0);
        t.predict(0);
        Check.state("predict(0)", t, 0, 0, 5, 0, 7);
        t.correct(3, 1);
        Check.due("flowGain()", t.flowGain(), (7 * 4096 + 53) / 106);
        Check.due("setSensor()", t.setSensor(3, TankFilter.LEVEL, 1), 99);
        Check.due("setGate()", t.setGate(0), 4);
        Check.due("setProcessNoise()", t.setProcessNoise(0, 0), 7);
        Check.due("errorCount(0)", t.errorCount(0), 1);
    }

    private static void resetLevel() {
        TankFilter t = new TankFilter();
        Check.range("reset(n, 0, 0, 0)", t, -40960000, 40960000, n -> t.reset(n, 0, 0, 0));
        Check.state("the largest", t, 40960000, 0, 0, 0, 0);
        t.reset(-40960000, 0, 0, 0);
        Check.state("the smallest", t, -40960000, 0, 0, 0, 0);
    }

    private static void resetFlow() {
        TankFilter t = new TankFilter();
        Check.range("reset(0, n, 0, 0)", t, -4096000, 4096000, n -> t.reset(0, n, 0, 0));
        Check.state("the largest", t, 0, 4096000, 0, 0, 0);
        t.reset(0, -4096000, 0, 0);
        Check.state("the smallest", t, 0, -4096000, 0, 0, 0);
    }

    private static void resetLevelVariance() {
        TankFilter t = new TankFilter();
        Check.range("reset(0, 0, n, 0)", t, 0, 40960000, n -> t.reset(0, 0, n, 0));
        Check.state("the largest", t, 0, 0, 40960000, 0, 0);
    }

    private static void resetFlowVariance() {
        TankFilter t = new TankFilter();
        Check.range("reset(0, 0, 0, n)", t, 0, 40960000, n -> t.reset(0, 0, 0, n));
        Check.state("the largest", t, 0, 0, 0, 0, 40960000);
    }

    private static void resetAnswersTheEntries() {
        TankFilter t = withReadings();
        Check.due("reset() of three entries", t.reset(0, 0, 4096, 4096), 3);
        Check.due("reset() of an empty history", t.reset(0, 0, 4096, 4096), 0);
        for (int i = 0; i < 24; i++) {
            t.predict(0);
        }
        Check.due("reset() of a full history", t.reset(0, 0, 0, 0), 24);
        for (int i = 0; i < 25; i++) {
            t.predict(0);
        }
        Check.due("reset() of an overfull history", t.reset(0, 0, 0, 0), 24);
    }

    private static void resetIsUndoable() {
        TankFilter t = withReadings();
        for (int i = 0; i < 4; i++) {
            t.setGate(9);
        }
        for (int i = 0; i < 4; i++) {
            t.undo();
        }
        Check.undoable("reset(1, 2, 3, 4)", t, 3, () -> t.reset(1, 2, 3, 4));
    }

    private static void sameResetIsUndoable() {
        TankFilter t = new TankFilter();
        Check.undoable("reset(0, 0, 4096, 4096)", t, 0, () -> t.reset(0, 0, 4096, 4096));
    }

    private static void noiseIsSet() {
        TankFilter t = new TankFilter();
        t.setProcessNoise(5, 7);
        t.reset(0, 0, 0, 0);
        t.predict(0);
        Check.state("predict(0)", t, 0, 0, 5, 0, 7);
        t.predict(0);
        Check.state("predict(0) again", t, 0, 0, 17, 7, 14);
        t.setProcessNoise(9, 3);
        t.predict(0);
        Check.state("predict(0) with more noise", t, 0, 0, 54, 21, 17);
    }

    private static void levelNoise() {
        TankFilter t = new TankFilter();
        Check.range("setProcessNoise(n, 0)", t, 0, 4096000, n -> t.setProcessNoise(n, 0));
        t.reset(0, 0, 0, 0);
        t.predict(0);
        Check.state("the largest", t, 0, 0, 4096000, 0, 0);
        t.setProcessNoise(0, 0);
        t.predict(0);
        Check.state("the smallest", t, 0, 0, 4096000, 0, 0);
    }

    private static void flowNoise() {
        TankFilter t = new TankFilter();
        Check.range("setProcessNoise(0, n)", t, 0, 4096000, n -> t.setProcessNoise(0, n));
        t.reset(0, 0, 0, 0);
        t.predict(0);
        Check.state("the largest", t, 0, 0, 0, 0, 4096000);
        t.setProcessNoise(0, 0);
        t.predict(0);
        Check.state("the smallest", t, 0, 0, 4096000, 4096000, 4096000);
    }

    private static void noiseAnswersThePrevious() {
        TankFilter t = new TankFilter();
        Check.due("setProcessNoise(5, 7)", t.setProcessNoise(5, 7), 64);
        Check.due("setProcessNoise(6, 0)", t.setProcessNoise(6, 0), 7);
        Check.due("setProcessNoise(0, 4096000)", t.setProcessNoise(0, 4096000), 0);
        Check.due("setProcessNoise(0, 1)", t.setProcessNoise(0, 1), 4096000);
    }

    private static void noiseIsUndoable() {
        TankFilter t = new TankFilter();
        Check.undoable("setProcessNoise(1, 2)", t, 64, () -> t.setProcessNoise(1, 2));
    }

    private static void sameNoiseIsUndoable() {
        TankFilter t = new TankFilter();
        Check.undoable("setProcessNoise(0, 64)", t, 64, () -> t.setProcessNoise(0, 64));
    }

    private static void sensorIsSet() {
        TankFilter t = new TankFilter();
        t.setSensor(1, TankFilter.FLOW, 12288);
        t.correct(1, 4096);
        // s is 4096 + 12288, so that the flow gains a quarter.
        Check.state("a flow reading", t, 0, 1024, 4096, 0, 3072);
        t.setSensor(1, TankFilter.LEVEL, 4096);
        t.correct(1, 4096);
        Check.state("a level reading", t, 2048, 1024, 2048, 0, 3072);
    }

    private static void otherSensorsStay() {
        TankFilter t = new TankFilter();
        for (int i = 0; i < 4; i++) {
            Check.due("r of sensor " + i, t.setSensor(i, TankFilter.FLOW, 1 + i), 4096);
        }
        for (int i = 0; i < 4; i++) {
            Check.due("r of sensor " + i, t.setSensor(i, TankFilter.LEVEL, 1), 1 + i);
        }
        t.setSensor(2, TankFilter.FLOW, 1);
        t.reset(10, 20, 0, 0);
        for (int i = 0; i < 4; i++) {
            t.correct(i, 0);
            Check.due("innovation() of sensor " + i, t.innovation(), i == 2 ? -20 : -10);
        }
    }

    private static void sensorNumber() {
        TankFilter t = new TankFilter();
        Check.range("setSensor(n, LEVEL, 1)", t, 0, 3, n -> t.setSensor(n, TankFilter.LEVEL, 1));
    }

    private static void sensorKind() {
        TankFilter t = new TankFilter();
        Check.range("setSensor(0, n, 1)", t, 0, 1, n -> t.setSensor(0, n, 1));
    }

    private static void sensorVariance() {
        TankFilter t = new TankFilter();
        Check.range("setSensor(0, LEVEL, n)", t, 1, 40960000, n -> t.setSensor(0, TankFilter.LEVEL, n));
        t.reset(0, 0, 40960000, 0);
        t.correct(0, 0);
        Check.due("levelGain() with the largest", t.levelGain(), 2048);
        t.setSensor(0, TankFilter.LEVEL, 1);
        t.reset(0, 0, 1, 0);
        t.correct(0, 0);
        Check.due("levelGain() with the smallest", t.levelGain(), 2048);
    }

    private static void sensorAnswersThePrevious() {
        TankFilter t = new TankFilter();
        Check.due("setSensor(3, FLOW, 40960000)", t.setSensor(3, TankFilter.FLOW, 40960000), 4096);
        Check.due("setSensor(3, LEVEL, 1)", t.setSensor(3, TankFilter.LEVEL, 1), 40960000);
        Check.due("setSensor(3, LEVEL, 2)", t.setSensor(3, TankFilter.LEVEL, 2), 1);
    }

    private static void sensorIsUndoable() {
        for (int i = 0; i < 4; i++) {
            int sensor = i;
            TankFilter t = new TankFilter();
            Check.undoable("setSensor(" + i + ", FLOW, 5)", t, 4096, () -> t.setSensor(sensor, TankFilter.FLOW, 5));
        }
    }

    private static void sameSensorIsUndoable() {
        TankFilter t = new TankFilter();
        Check.undoable("setSensor(2, LEVEL, 4096)", t, 4096, () -> t.setSensor(2, TankFilter.LEVEL, 4096));
    }

    private static void gateIsSet() {
        TankFilter t = new TankFilter();
        // s is 8192: with the gate 2, y * y may be up to 2 * 8192 * 4096 = 8192 * 8192.
        t.setGate(2);
        Check.due("correct(0, 8193)", t.correct(0, 8193), 0);
        t.setGate(3);
        Check.due("correct(0, 8193)", t.correct(0, 8193), 1);
    }

    private static void gateRange() {
        TankFilter t = new TankFilter();
        Check.range("setGate(n)", t, 0, 25, t::setGate);
    }

    private static void noGate() {
        TankFilter t = new TankFilter();
        t.setGate(0);
        Check.due("correct(0, 40960000)", t.correct(0, 40960000), 1);
        Check.due("correct(0, -40960000)", t.correct(0, -40960000), 1);
    }

    private static void narrowestGate() {
        TankFilter t = new TankFilter();
        t.setGate(1);
        Check.due("correct(0, 5793)", t.correct(0, 5793), 0);
        Check.due("correct(0, 5792)", t.correct(0, 5792), 1);
    }

    private static void widestGate() {
        TankFilter t = new TankFilter();
        t.setGate(25);
        Check.due("correct(0, 28964)", t.correct(0, 28964), 0);
        Check.due("correct(0, 28963)", t.correct(0, 28963), 1);
    }

    private static void gateAnswersThePrevious() {
        TankFilter t = new TankFilter();
        Check.due("setGate(25)", t.setGate(25), 9);
        Check.due("setGate(0)", t.setGate(0), 25);
        Check.due("setGate(1)", t.setGate(1), 0);
    }

    private static void gateIsUndoable() {
        TankFilter t = new TankFilter();
        Check.undoable("setGate(3)", t, 9, () -> t.setGate(3));
    }

    private static void sameGateIsUndoable() {
        TankFilter t = new TankFilter();
        Check.undoable("setGate(9)", t, 9, () -> t.setGate(9));
    }
}
