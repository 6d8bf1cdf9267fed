/** Promises 28 to 30: undo, error counters and the digest. */
public final class UndoTest {
    public static void main(String[] args) {
        promise28Undo();
        promise28KeepsFourStates();
        promise28RestoresEverything();
        promise28RestoresEachSensor();
        promise28RestoresTheHistory();
        promise28FailuresSaveNothing();
        promise29ErrorCount();
        promise30DigestOfANewObject();
        promise30Digest();
        Check.end();
    }

    private static void promise28Undo() {
        TankFilter t = new TankFilter();
        Check.fails("undo()", t, TankFilter.REJECTED, t::undo);
        t.predict(1);
        t.predict(2);
        Check.due("undo()", t.undo(), 1);
        Check.due("level()", t.level(), 1);
        t.predict(3);
        Check.due("level()", t.level(), 4);
        Check.due("undo()", t.undo(), 1);
        Check.due("undo()", t.undo(), 0);
        Check.state("undo()", t, 0, 0, 4096, 0, 4096);
        Check.fails("undo()", t, TankFilter.REJECTED, t::undo);
    }

    private static void promise28KeepsFourStates() {
        TankFilter t = new TankFilter();
        for (int i = 1; i <= 11; i++) {
            t.setGate(i);
        }
        Check.due("undo()", t.undo(), 3);
        Check.due("undo()", t.undo(), 2);
        Check.due("setGate(20)", t.setGate(20), 9);
        Check.due("setGate(21)", t.setGate(21), 20);
        Check.due("setGate(22)", t.setGate(22), 21);
        Check.due("undo()", t.undo(), 3);
        Check.due("undo()", t.undo(), 2);
        Check.due("undo()", t.undo(), 1);
        Check.due("undo()", t.undo(), 0);
        Check.due("undo()", t.undo(), TankFilter.REJECTED);
        Check.due("setGate(0)", t.setGate(0), 8);
    }

    private static void promise28RestoresEverything() {
        TankFilter t = new TankFilter();
        t.setSensor(1, TankFilter.FLOW, 77);
        t.setProcessNoise(3, 4);
        t.setGate(5);
        for (int i = 0; i < 30; i++) {
            t.predict(i);
            t.correct(i % 4, 50 * i);
        }
        t.miss(1);
        long before = t.digest();
        t.reset(1, 2, 3, 4);
        t.setSensor(1, TankFilter.LEVEL, 78);
        t.setProcessNoise(9, 9);
        t.setGate(6);
        Check.invalid("setGate(26)", t, () -> t.setGate(26));
        Check.due("undo()", t.undo(), 3);
        Check.due("undo()", t.undo(), 2);
        Check.due("undo()", t.undo(), 1);
        Check.due("undo()", t.undo(), 0);
        // The error counter and the four states that are gone are all that differs.
        long values = 26 + 2 * t.historyLength();
        long gone = 4 * Check.power(31, (int) values - 3);
        Check.due("digest()", t.digest(), before + Check.power(31, (int) values) - gone);
        Check.due("errorCount(0)", t.errorCount(0), 1);
    }

    private static void promise28RestoresEachSensor() {
        for (int i = 0; i < 4; i++) {
            int sensor = i;
            TankFilter t = new TankFilter();
            Check.undoable("setSensor()", t, 4096, () -> t.setSensor(sensor, TankFilter.FLOW, 9 + sensor));
            Check.due("setSensor()", t.setSensor(i, TankFilter.LEVEL, 5), 4096);
        }
    }

    private static void promise28RestoresTheHistory() {
        TankFilter t = new TankFilter();
        for (int i = 1; i <= 24; i++) {
            t.predict(i);
        }
        long before = t.digest();
        t.predict(100);
        t.correct(3, 200);
        t.undo();
        t.undo();
        // The entries that were dropped are there again; two of the four states are gone.
        long gone = 2 * Check.power(31, 26 + 2 * 24 - 3);
        Check.due("digest()", t.digest(), before - gone);
        t.reset(1, 2, 3, 4);
        t.predict(5);
        t.undo();
        t.undo();
        Check.due("digest()", t.digest(), before - gone);
    }

    private static void promise28FailuresSaveNothing() {
        TankFilter t = new TankFilter();
        t.setGate(26);
        t.predict(4096001);
        t.correct(4, 0);
        t.miss(4);
        t.reset(0, 0, -1, 0);
        t.setSensor(0, 2, 1);
        t.setProcessNoise(-1, 0);
        t.forecast(3);
        t.forecastVariance(3);
        t.stepsTo(3);
        t.steadyCycles(0);
        t.steadyGain(0, 0);
        t.replayError(0);
        t.bestFlowNoise();
        t.errorCount(0);
        t.digest();
        Check.due("undo()", t.undo(), TankFilter.REJECTED);
        t.setProcessNoise(0, 0);
        t.reset(0, 0, 40960000, 40960000);
        while (t.predict(0) != TankFilter.OVERFLOW) {
            t.setGate(9);
        }
        t.predict(0);
        t.predict(0);
        Check.due("undo() of setGate(9)", t.undo(), 3);
        Check.due("historyLength()", t.historyLength(), 4);
        Check.due("undo() of predict(0)", t.undo(), 2);
        Check.due("historyLength()", t.historyLength(), 3);
        Check.due("errorCount(2)", t.errorCount(2), 3);
    }

    private static void promise29ErrorCount() {
        TankFilter t = new TankFilter();
        t.setGate(26);
        t.setGate(26);
        t.setGate(26);
        t.undo();
        t.undo();
        t.reset(0, 0, 40960000, 40960000);
        t.forecast(100);
        Check.asks("errorCount(0)", t, 3, () -> t.errorCount(0));
        Check.asks("errorCount(1)", t, 2, () -> t.errorCount(1));
        Check.asks("errorCount(2)", t, 1, () -> t.errorCount(2));
        for (int bad : new int[] {-1, 3, Integer.MIN_VALUE, Integer.MAX_VALUE}) {
            Check.invalid("errorCount(" + bad + ")", t, () -> t.errorCount(bad));
        }
        Check.due("errorCount(0)", t.errorCount(0), 7);
        Check.due("undo()", t.undo(), 0);
        Check.due("errorCount(0) after undo()", t.errorCount(0), 7);
        Check.due("errorCount(2) after undo()", t.errorCount(2), 1);
        t.reset(0, 0, 0, 0);
        Check.due("errorCount(0) after reset()", t.errorCount(0), 7);
    }

    private static long hash(long... values) {
        long h = 12254;
        for (long v : values) {
            h = 31 * h + v;
        }
        return h;
    }

    private static void promise30DigestOfANewObject() {
        TankFilter t = new TankFilter();
        long none = TankFilter.NONE;
        long due = hash(0, 0, 0, 0, 0, 0, 4096, 0, 4096, 0, 64, 9,
                0, 4096, 0, 4096, 0, 4096, 0, 4096, none, none, none, 0, 0, 0, 0);
        Check.due("digest()", t.digest(), due);
        Check.due("digest() again", t.digest(), due);
    }

    private static void promise30Digest() {
        TankFilter t = new TankFilter();
        t.setProcessNoise(0, 64);
        t.setSensor(1, TankFilter.FLOW, 500);
        t.setSensor(3, TankFilter.LEVEL, 600);
        t.predict(-5);
        t.predict(5);
        t.reset(0, 0, 4096, 4096);
        t.predict(0);
        t.correct(0, 8192);
        t.correct(2, -40960000);
        t.miss(3);
        t.setGate(26);
        t.setGate(26);
        t.setGate(26);
        t.forecast(101);
        t.setGate(26);
        t.reset(0, 0, 0, -1);
        t.undo();
        // Three states are left on the stack, and miss(3) is undone.
        Check.due("digest()", t.digest(), hash(6, 0, 0, 3, 5462, 2730, 2730, 1365, 2795, 0, 64, 9,
                0, 4096, 1, 500, 0, 4096, 0, 600,
                -40960000 - 5462, 2731, 1365, 1, 1, 0, 3, -1, 0, 0, 8192, 2, -40960000));
        t.setProcessNoise(17, 18);
        t.setGate(7);
        t.miss(0);
        t.miss(0);
        Check.due("digest()", t.digest(), hash(6, 0, 0, 4, 5462, 2730, 2730, 1365, 2795, 17, 18, 7,
                0, 4096, 1, 500, 0, 4096, 0, 600,
                -40960000 - 5462, 2731, 1365, 1, 1, 2, 3, -1, 0, 0, 8192, 2, -40960000));
    }
}
