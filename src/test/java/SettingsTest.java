/** Promises 1 to 5: a new object and the settings. */
public final class SettingsTest {
    private static final int MIN = Integer.MIN_VALUE;
    private static final int MAX = Integer.MAX_VALUE;

    public static void main(String[] args) {
        promise1NewObject();
        promise2ResetSetsTheState();
        promise2ResetForgets();
        promise2ResetKeepsTheSettings();
        promise2Edges();
        promise3SetProcessNoise();
        promise3Edges();
        promise4SetSensor();
        promise4Edges();
        promise5SetGate();
        promise5Edges();
        settingsAreUndoable();
        Check.end();
    }

    private static void promise1NewObject() {
        TankFilter t = new TankFilter();
        Check.state("new", t, 0, 0, 4096, 0, 4096);
        Check.due("innovation()", t.innovation(), TankFilter.NONE);
        Check.due("levelGain()", t.levelGain(), TankFilter.NONE);
        Check.due("flowGain()", t.flowGain(), TankFilter.NONE);
        Check.due("accepted()", t.accepted(), 0);
        Check.due("rejected()", t.rejected(), 0);
        Check.due("missed()", t.missed(), 0);
        Check.due("historyLength()", t.historyLength(), 0);
        for (int kind = 0; kind < 3; kind++) {
            Check.due("errorCount(" + kind + ")", t.errorCount(kind), 0);
        }
        Check.due("undo() of a new object", t.undo(), TankFilter.REJECTED);
        Check.due("new w", new TankFilter().setProcessNoise(0, 0), 64);
        Check.due("new gate", new TankFilter().setGate(0), 9);
        for (int i = 0; i < 4; i++) {
            Check.due("new r of sensor " + i, new TankFilter().setSensor(i, TankFilter.FLOW, 1), 4096);
            TankFilter level = new TankFilter();
            level.correct(i, 2);
            Check.due("a LEVEL sensor moves the level", level.level(), 1);
        }
        TankFilter other = new TankFilter();
        other.predict(5);
        Check.due("level() of one object after predict() of another", new TankFilter().level(), 0);
    }

    private static void promise2ResetSetsTheState() {
        TankFilter t = new TankFilter();
        t.predict(7);
        Check.due("covariance()", t.covariance(), 4096);
        Check.due("reset(1, 2, 3, 4)", t.reset(1, 2, 3, 4), 1);
        Check.state("reset(1, 2, 3, 4)", t, 1, 2, 3, 0, 4);
        Check.due("reset again", t.reset(-5, -6, 0, 0), 0);
        Check.state("reset(-5, -6, 0, 0)", t, -5, -6, 0, 0, 0);
    }

    private static void promise2ResetForgets() {
        TankFilter t = new TankFilter();
        t.predict(0);
        t.correct(0, 4096);
        t.correct(0, 40960000);
        t.miss(0);
        Check.due("accepted()", t.accepted(), 1);
        Check.due("rejected()", t.rejected(), 1);
        Check.due("missed()", t.missed(), 1);
        Check.due("reset()", t.reset(0, 0, 4096, 4096), 3);
        Check.due("innovation()", t.innovation(), TankFilter.NONE);
        Check.due("levelGain()", t.levelGain(), TankFilter.NONE);
        Check.due("flowGain()", t.flowGain(), TankFilter.NONE);
        Check.due("accepted()", t.accepted(), 0);
        Check.due("rejected()", t.rejected(), 0);
        Check.due("missed()", t.missed(), 0);
        Check.due("historyLength()", t.historyLength(), 0);
        Check.fails("replayError(0) of the empty history", t, TankFilter.REJECTED, () -> t.replayError(0));
        for (int i = 0; i < 30; i++) {
            t.predict(0);
        }
        Check.due("reset() of a full history", t.reset(0, 0, 0, 0), 24);
    }

    private static void promise2ResetKeepsTheSettings() {
        TankFilter t = new TankFilter();
        t.setProcessNoise(5, 7);
        t.setSensor(3, TankFilter.FLOW, 99);
        t.setGate(4);
        Check.invalid("errorCount(3)", t, () -> t.errorCount(3));
        t.reset(0, 0, 0, 0);
        t.predict(0);
        Check.state("predict(0)", t, 0, 0, 5, 0, 7);
        t.correct(3, 1);
        Check.due("innovation()", t.innovation(), 1);
        Check.due("flowGain()", t.flowGain(), (7 * 4096 + 53) / 106);
        Check.due("setSensor()", t.setSensor(3, TankFilter.LEVEL, 1), 99);
        Check.due("setGate()", t.setGate(0), 4);
        Check.due("setProcessNoise()", t.setProcessNoise(0, 0), 7);
        Check.due("errorCount(0)", t.errorCount(0), 1);
    }

    private static void promise2Edges() {
        TankFilter t = new TankFilter();
        t.predict(0);
        t.correct(0, 4096);
        for (int bad : new int[] {-40960001, 40960001, MIN, MAX}) {
            Check.invalid("reset(" + bad + ", 0, 0, 0)", t, () -> t.reset(bad, 0, 0, 0));
        }
        for (int bad : new int[] {-4096001, 4096001, MIN, MAX}) {
            Check.invalid("reset(0, " + bad + ", 0, 0)", t, () -> t.reset(0, bad, 0, 0));
        }
        for (int bad : new int[] {-1, 40960001, MIN, MAX}) {
            Check.invalid("reset(0, 0, " + bad + ", 0)", t, () -> t.reset(0, 0, bad, 0));
            Check.invalid("reset(0, 0, 0, " + bad + ")", t, () -> t.reset(0, 0, 0, bad));
        }
        Check.due("reset() to the low ends", t.reset(-40960000, -4096000, 0, 0), 2);
        Check.state("reset() to the low ends", t, -40960000, -4096000, 0, 0, 0);
        Check.due("reset() to the high ends", t.reset(40960000, 4096000, 40960000, 40960000), 0);
        Check.state("reset() to the high ends", t, 40960000, 4096000, 40960000, 0, 40960000);
    }

    private static void promise3SetProcessNoise() {
        TankFilter t = new TankFilter();
        Check.due("setProcessNoise(5, 7)", t.setProcessNoise(5, 7), 64);
        t.reset(0, 0, 0, 0);
        t.predict(0);
        Check.state("predict(0)", t, 0, 0, 5, 0, 7);
        t.predict(0);
        Check.state("predict(0) again", t, 0, 0, 17, 7, 14);
        Check.due("setProcessNoise(5, 0)", t.setProcessNoise(5, 0), 7);
        Check.due("setProcessNoise(9, 3)", t.setProcessNoise(9, 3), 0);
        t.predict(0);
        Check.state("predict(0) with more noise", t, 0, 0, 54, 21, 17);
    }

    private static void promise3Edges() {
        TankFilter t = new TankFilter();
        for (int bad : new int[] {-1, 4096001, MIN, MAX}) {
            Check.invalid("setProcessNoise(" + bad + ", 0)", t, () -> t.setProcessNoise(bad, 0));
            Check.invalid("setProcessNoise(0, " + bad + ")", t, () -> t.setProcessNoise(0, bad));
        }
        Check.due("setProcessNoise() to the high ends", t.setProcessNoise(4096000, 4096000), 64);
        Check.due("setProcessNoise() to the low ends", t.setProcessNoise(0, 0), 4096000);
        Check.due("setProcessNoise(1, 1)", t.setProcessNoise(1, 1), 0);
    }

    private static void promise4SetSensor() {
        TankFilter t = new TankFilter();
        Check.due("setSensor(1, FLOW, 12288)", t.setSensor(1, TankFilter.FLOW, 12288), 4096);
        Check.due("correct(1, 4096)", t.correct(1, 4096), 1);
        // s is 4096 + 12288, so that the flow gains a quarter.
        Check.due("levelGain()", t.levelGain(), 0);
        Check.due("flowGain()", t.flowGain(), 1024);
        Check.state("correct(1, 4096)", t, 0, 1024, 4096, 0, 3072);
        Check.due("setSensor(1, LEVEL, 4096)", t.setSensor(1, TankFilter.LEVEL, 4096), 12288);
        Check.due("correct(1, 4096)", t.correct(1, 4096), 1);
        Check.state("correct(1, 4096)", t, 2048, 1024, 2048, 0, 3072);
        for (int i : new int[] {0, 2, 3}) {
            Check.due("r of sensor " + i, t.setSensor(i, TankFilter.LEVEL, 1 + i), 4096);
        }
        for (int i : new int[] {0, 2, 3}) {
            Check.due("r of sensor " + i, t.setSensor(i, TankFilter.FLOW, 1), 1 + i);
        }
    }

    private static void promise4Edges() {
        TankFilter t = new TankFilter();
        for (int bad : new int[] {-1, 4, MIN, MAX}) {
            Check.invalid("setSensor(" + bad + ", 0, 1)", t, () -> t.setSensor(bad, 0, 1));
        }
        for (int bad : new int[] {-1, 2, MIN, MAX}) {
            Check.invalid("setSensor(0, " + bad + ", 1)", t, () -> t.setSensor(0, bad, 1));
        }
        for (int bad : new int[] {0, -1, 40960001, MIN, MAX}) {
            Check.invalid("setSensor(0, 0, " + bad + ")", t, () -> t.setSensor(0, 0, bad));
        }
        Check.due("setSensor(0, 0, 1)", t.setSensor(0, 0, 1), 4096);
        Check.due("setSensor(3, 1, 40960000)", t.setSensor(3, 1, 40960000), 4096);
        Check.due("setSensor(3, 0, 2)", t.setSensor(3, 0, 2), 40960000);
        Check.due("correct(0, 0)", t.correct(0, 0), 1);
        Check.due("levelGain() with r = 1", t.levelGain(), 4095);
    }

    private static void promise5SetGate() {
        TankFilter t = new TankFilter();
        // s is 8192: with the gate 2, y * y may be up to 2 * 8192 * 4096 = 8192 * 8192.
        Check.due("setGate(2)", t.setGate(2), 9);
        Check.due("correct(0, 8193)", t.correct(0, 8193), 0);
        Check.due("setGate(3)", t.setGate(3), 2);
        Check.due("correct(0, 8193)", t.correct(0, 8193), 1);
        Check.due("setGate(0)", t.setGate(0), 3);
        Check.due("correct(0, 40960000)", t.correct(0, 40960000), 1);
        Check.due("setGate(1)", t.setGate(1), 0);
    }

    private static void promise5Edges() {
        TankFilter t = new TankFilter();
        for (int bad : new int[] {-1, 26, MIN, MAX}) {
            Check.invalid("setGate(" + bad + ")", t, () -> t.setGate(bad));
        }
        Check.due("setGate(25)", t.setGate(25), 9);
        Check.due("correct(0, 28964)", t.correct(0, 28964), 0);
        Check.due("correct(0, 28963)", t.correct(0, 28963), 1);
        Check.due("setGate(0)", t.setGate(0), 25);
    }

    private static void settingsAreUndoable() {
        TankFilter t = new TankFilter();
        Check.undoable("reset(1, 2, 3, 4)", t, 0, () -> t.reset(1, 2, 3, 4));
        Check.undoable("reset(0, 0, 4096, 4096)", t, 0, () -> t.reset(0, 0, 4096, 4096));
        Check.undoable("setProcessNoise(1, 2)", t, 64, () -> t.setProcessNoise(1, 2));
        Check.undoable("setProcessNoise(0, 64)", t, 64, () -> t.setProcessNoise(0, 64));
        Check.undoable("setSensor(2, 1, 5)", t, 4096, () -> t.setSensor(2, 1, 5));
        Check.undoable("setSensor(2, 0, 4096)", t, 4096, () -> t.setSensor(2, 0, 4096));
        Check.undoable("setGate(3)", t, 9, () -> t.setGate(3));
        Check.undoable("setGate(9)", t, 9, () -> t.setGate(9));
    }
}
