/** Promises 6 to 8: predictions, corrections and missing readings. */
public final class FilteringTest {
    private static final int MIN = Integer.MIN_VALUE;
    private static final int MAX = Integer.MAX_VALUE;

    public static void main(String[] args) {
        promise6Predict();
        promise6NegativeLevelVarianceBecomesZero();
        promise6LevelInTheLimit(1);
        promise6LevelInTheLimit(-1);
        promise6VarianceInTheLimit();
        promise6WrongInflow();
        promise7LevelSensor();
        promise7FlowSensor();
        promise7RoundsDown();
        promise7Gate();
        promise7NegativeLevelVarianceBecomesZero();
        promise7NegativeFlowVarianceBecomesZero();
        promise7LevelOverflow();
        promise7FlowOverflow();
        promise7LevelInTheLimit();
        promise7WrongArguments();
        promise8Miss();
        filteringIsUndoable();
        Check.end();
    }

    private static void promise6Predict() {
        TankFilter t = new TankFilter();
        t.setProcessNoise(5, 7);
        t.reset(100, 20, 10, 3);
        Check.due("predict(-1)", t.predict(-1), 119);
        Check.state("predict(-1)", t, 119, 20, 18, 3, 10);
        Check.due("predict(0)", t.predict(0), 139);
        Check.state("predict(0)", t, 139, 20, 39, 13, 17);
        Check.due("predict(4096000)", t.predict(4096000), 4096159);
        Check.due("predict(-4096000)", t.predict(-4096000), 179);
        Check.due("historyLength()", t.historyLength(), 4);
        Check.due("innovation()", t.innovation(), TankFilter.NONE);
        Check.due("accepted()", t.accepted(), 0);
    }

    private static void promise6NegativeLevelVarianceBecomesZero() {
        TankFilter t = new TankFilter();
        t.setSensor(1, TankFilter.FLOW, 10);
        t.reset(0, 0, 100, 40960000);
        t.predict(0);
        Check.state("predict(0)", t, 0, 0, 40960100, 40960000, 40960064);
        Check.due("correct(1, 0)", t.correct(1, 0), 1);
        Check.state("correct(1, 0)", t, 0, 0, 100, -64, 0);
        Check.due("forecastVariance(1)", t.forecastVariance(1), 0);
        Check.due("predict(0)", t.predict(0), 0);
        Check.state("predict(0)", t, 0, 0, 0, -64, 64);
    }

    private static void promise6LevelInTheLimit(int sign) {
        TankFilter t = new TankFilter();
        t.setProcessNoise(0, 0);
        t.reset(sign * 40960000, sign * 4096000, 0, 0);
        for (int i = 1; i <= 117; i++) {
            Check.due("predict " + i, t.predict(sign * 4096000), sign * (40960000 + i * 8192000));
        }
        Check.due("predict() to the limit", t.predict(sign * -3520000), sign * 1000000000);
        Check.due("predict() at the limit", t.predict(sign * -4096000), sign * 1000000000);
        Check.fails("predict() above the limit", t, TankFilter.OVERFLOW, () -> t.predict(sign * -4095999));
        Check.fails("predict(0) far above the limit", t, TankFilter.OVERFLOW, () -> t.predict(0));
        Check.due("level()", t.level(), sign * 1000000000);
        Check.fails("INVALID before OVERFLOW", t, TankFilter.INVALID, () -> t.predict(sign * 4096001));
    }

    private static void promise6VarianceInTheLimit() {
        TankFilter t = new TankFilter();
        t.setProcessNoise(4096000, 0);
        t.reset(0, 0, 40960000, 0);
        for (int i = 1; i <= 234; i++) {
            t.predict(0);
        }
        Check.due("levelVariance()", t.levelVariance(), 999424000);
        t.setProcessNoise(576001, 0);
        Check.fails("predict(0) above the limit", t, TankFilter.OVERFLOW, () -> t.predict(0));
        t.setProcessNoise(576000, 0);
        Check.due("predict(0) to the limit", t.predict(0), 0);
        Check.due("levelVariance()", t.levelVariance(), 1000000000);
        t.setProcessNoise(1, 0);
        Check.fails("predict(0) above the limit", t, TankFilter.OVERFLOW, () -> t.predict(0));
        t.setProcessNoise(0, 0);
        Check.due("predict(0) at the limit", t.predict(0), 0);
    }

    private static void promise6WrongInflow() {
        TankFilter t = new TankFilter();
        for (int bad : new int[] {-4096001, 4096001, MIN, MAX}) {
            Check.invalid("predict(" + bad + ")", t, () -> t.predict(bad));
        }
    }

    private static void promise7LevelSensor() {
        TankFilter t = new TankFilter();
        t.predict(0);
        Check.due("correct(0, 8192)", t.correct(0, 8192), 1);
        Check.due("levelGain()", t.levelGain(), 2731);
        Check.due("flowGain()", t.flowGain(), 1365);
        Check.due("innovation()", t.innovation(), 8192);
        Check.state("correct(0, 8192)", t, 5462, 2730, 2730, 1365, 2795);
        Check.due("accepted()", t.accepted(), 1);
        Check.due("historyLength()", t.historyLength(), 2);
    }

    private static void promise7FlowSensor() {
        TankFilter t = new TankFilter();
        t.setSensor(2, TankFilter.FLOW, 4096);
        t.predict(300);
        Check.due("correct(2, -1000)", t.correct(2, -1000), 1);
        Check.due("innovation()", t.innovation(), -1000);
        Check.due("levelGain()", t.levelGain(), 2032);
        Check.due("flowGain()", t.flowGain(), 2064);
        Check.state("correct(2, -1000)", t, 300 - 496, -504, 6160, 2032, 2064);
        Check.due("correct(2, -504)", t.correct(2, -504), 1);
        Check.due("innovation() of a reading that equals v", t.innovation(), 0);
        Check.due("level()", t.level(), 300 - 496);
    }

    private static void promise7RoundsDown() {
        TankFilter t = new TankFilter();
        Check.due("correct(0, 1)", t.correct(0, 1), 1);
        Check.due("levelGain()", t.levelGain(), 2048);
        Check.due("level() after half a unit up", t.level(), 1);
        t.reset(0, 0, 4096, 4096);
        t.correct(0, -1);
        Check.due("level() after half a unit down", t.level(), 0);
        t.reset(0, 0, 4096, 4096);
        t.correct(0, -2);
        Check.due("level() after a whole unit down", t.level(), -1);
        t.reset(0, 0, 4096, 4096);
        t.correct(0, -3);
        Check.due("level() after one and a half units down", t.level(), -1);
    }

    private static void promise7Gate() {
        TankFilter t = new TankFilter();
        t.setGate(2);
        // s is 8192, so that y * y = 8192 * 8192 is just not above the gate.
        Check.due("correct(1, 8193)", t.correct(1, 8193), 0);
        Check.state("correct(1, 8193)", t, 0, 0, 4096, 0, 4096);
        Check.due("innovation()", t.innovation(), 8193);
        Check.due("levelGain()", t.levelGain(), TankFilter.NONE);
        Check.due("flowGain()", t.flowGain(), TankFilter.NONE);
        Check.due("rejected()", t.rejected(), 1);
        Check.due("accepted()", t.accepted(), 0);
        Check.due("historyLength()", t.historyLength(), 1);
        Check.due("correct(1, -8193)", t.correct(1, -8193), 0);
        Check.due("innovation()", t.innovation(), -8193);
        Check.due("correct(1, 8192)", t.correct(1, 8192), 1);
        Check.due("innovation()", t.innovation(), 8192);
        Check.state("correct(1, 8192)", t, 4096, 0, 2048, 0, 4096);
        t.setSensor(3, TankFilter.FLOW, 4096);
        Check.due("correct(3, -8193)", t.correct(3, -8193), 0);
        Check.due("correct(3, -8192)", t.correct(3, -8192), 1);
        Check.due("flow()", t.flow(), -4096);
        Check.due("rejected()", t.rejected(), 3);
    }

    private static void promise7NegativeLevelVarianceBecomesZero() {
        TankFilter t = new TankFilter();
        t.setProcessNoise(0, 4096000);
        t.reset(0, 0, 0, 100);
        t.predict(0);
        Check.state("predict(0)", t, 0, 0, 100, 100, 4096100);
        t.setSensor(1, TankFilter.FLOW, 1);
        t.correct(1, 0);
        Check.state("correct(1, 0)", t, 0, 0, 100, 100, 0);
        t.setSensor(1, TankFilter.FLOW, 2);
        Check.due("correct(1, 0)", t.correct(1, 0), 1);
        Check.due("levelGain()", t.levelGain(), 204800);
        Check.due("flowGain()", t.flowGain(), 0);
        Check.state("correct(1, 0) again", t, 0, 0, 0, 100, 0);
    }

    private static void promise7NegativeFlowVarianceBecomesZero() {
        TankFilter t = new TankFilter();
        t.setProcessNoise(0, 4096000);
        t.setSensor(1, TankFilter.FLOW, 4096);
        t.reset(0, 0, 40960000, 40960000);
        t.predict(0);
        t.correct(1, 0);
        Check.state("correct(1, 0)", t, 0, 0, 44690000, 7000, 0);
        Check.due("correct(0, 0)", t.correct(0, 0), 1);
        Check.due("levelGain()", t.levelGain(), 4096);
        Check.due("flowGain()", t.flowGain(), 1);
        Check.state("correct(0, 0)", t, 0, 0, 0, 0, 0);
    }

    /** Some predictions after which a flow sensor moves the level by about that many innovations. */
    private static TankFilter afterPredictions(int count) {
        TankFilter t = new TankFilter();
        t.setProcessNoise(0, 0);
        t.setSensor(1, TankFilter.FLOW, 1);
        t.setGate(0);
        t.reset(0, 0, 0, 4096);
        for (int i = 0; i < count; i++) {
            t.predict(0);
        }
        return t;
    }

    private static void promise7LevelOverflow() {
        TankFilter t = afterPredictions(30);
        Check.fails("correct(1, 40960000)", t, TankFilter.OVERFLOW, () -> t.correct(1, 40960000));
        Check.fails("correct(1, -40960000)", t, TankFilter.OVERFLOW, () -> t.correct(1, -40960000));
        Check.fails("INVALID before OVERFLOW", t, TankFilter.INVALID, () -> t.correct(4, 40960000));
        Check.due("innovation()", t.innovation(), TankFilter.NONE);
        Check.due("historyLength()", t.historyLength(), 24);
        t.setGate(25);
        Check.due("correct(1, 40960000) with a gate", t.correct(1, 40960000), 0);
        TankFilter fewer = afterPredictions(20);
        Check.due("correct(1, 40960000)", fewer.correct(1, 40960000), 1);
        Check.due("levelGain()", fewer.levelGain(), 81900);
        Check.due("level()", fewer.level(), 819000000);
    }

    private static void promise7FlowOverflow() {
        TankFilter t = new TankFilter();
        t.setProcessNoise(0, 0);
        t.setGate(0);
        t.setSensor(0, TankFilter.LEVEL, 1);
        t.reset(-40960000, -4096000, 0, 0);
        for (int i = 0; i < 114; i++) {
            t.predict(-4096000);
        }
        Check.due("level()", t.level(), -974848000);
        t.setProcessNoise(0, 4096000);
        t.predict(0);
        t.setProcessNoise(0, 0);
        t.predict(0);
        Check.state("predict(0)", t, -983040000, -4096000, 4096000, 4096000, 4096000);
        // Both gains are 4096: the new level is the reading, and the flow grows by the innovation.
        Check.fails("correct(0, 40960000)", t, TankFilter.OVERFLOW, () -> t.correct(0, 40960000));
        Check.fails("correct(0, 21056001)", t, TankFilter.OVERFLOW, () -> t.correct(0, 21056001));
        Check.due("correct(0, 21056000)", t.correct(0, 21056000), 1);
        Check.due("innovation()", t.innovation(), 1004096000);
        Check.state("correct(0, 21056000)", t, 21056000, 1000000000, 0, 0, 0);
    }

    private static void promise7LevelInTheLimit() {
        TankFilter t = afterPredictions(30);
        // k is 122850, and 33342000 * 122850 / 4096 is just above the limit.
        int last = lastReadingInTheLimit(122850);
        Check.fails("correct() above the limit", t, TankFilter.OVERFLOW, () -> t.correct(1, last + 1));
        Check.due("correct() in the limit", t.correct(1, last), 1);
        Check.due("levelGain()", t.levelGain(), 122850);
        Check.due("level()", t.level(), Math.floorDiv(122850L * last + 2048, 4096L));
    }

    private static int lastReadingInTheLimit(long gain) {
        int reading = 0;
        while (Math.floorDiv(gain * (reading + 1) + 2048, 4096L) <= 1000000000L) {
            reading++;
        }
        return reading;
    }

    private static void promise7WrongArguments() {
        TankFilter t = new TankFilter();
        t.predict(0);
        for (int bad : new int[] {-1, 4, MIN, MAX}) {
            Check.invalid("correct(" + bad + ", 0)", t, () -> t.correct(bad, 0));
        }
        for (int bad : new int[] {-40960001, 40960001, MIN, MAX}) {
            Check.invalid("correct(0, " + bad + ")", t, () -> t.correct(0, bad));
        }
        Check.due("correct(3, 40960000)", t.correct(3, 40960000), 0);
        Check.due("correct(3, -40960000)", t.correct(3, -40960000), 0);
    }

    private static void promise8Miss() {
        TankFilter t = new TankFilter();
        t.predict(3);
        t.correct(0, 5);
        int level = t.level();
        Check.due("miss(0)", t.miss(0), 1);
        Check.due("miss(3)", t.miss(3), 2);
        Check.due("miss(3)", t.miss(3), 3);
        Check.due("missed()", t.missed(), 3);
        Check.due("level()", t.level(), level);
        Check.due("accepted()", t.accepted(), 1);
        Check.due("rejected()", t.rejected(), 0);
        Check.due("innovation()", t.innovation(), 2);
        Check.due("historyLength()", t.historyLength(), 2);
        for (int bad : new int[] {-1, 4, MIN, MAX}) {
            Check.invalid("miss(" + bad + ")", t, () -> t.miss(bad));
        }
    }

    private static void filteringIsUndoable() {
        TankFilter t = new TankFilter();
        Check.undoable("predict(5)", t, 5, () -> t.predict(5));
        Check.undoable("correct(0, 5)", t, 1, () -> t.correct(0, 5));
        Check.undoable("correct(0, 40960000)", t, 0, () -> t.correct(0, 40960000));
        Check.undoable("miss(0)", t, 1, () -> t.miss(0));
    }
}
