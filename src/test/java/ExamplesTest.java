/** The five examples of the document, and that of README.md. */
public final class ExamplesTest {
    public static void main(String[] args) {
        predictionAndCorrection();
        gate();
        forecastsWithoutNoise();
        overflowAndAnotherError();
        replays();
        readme();
        Check.end();
    }

    private static void predictionAndCorrection() {
        TankFilter t = new TankFilter();
        Check.due("predict(0)", t.predict(0), 0);
        Check.due("levelVariance()", t.levelVariance(), 8192);
        Check.due("covariance()", t.covariance(), 4096);
        Check.due("flowVariance()", t.flowVariance(), 4160);
        Check.due("correct(0, 8192)", t.correct(0, 8192), 1);
        Check.due("levelGain()", t.levelGain(), 2731);
        Check.due("flowGain()", t.flowGain(), 1365);
        Check.due("level()", t.level(), 5462);
        Check.due("flow()", t.flow(), 2730);
        Check.due("levelVariance()", t.levelVariance(), 2730);
    }

    private static void gate() {
        TankFilter t = new TankFilter();
        Check.due("setGate(1)", t.setGate(1), 9);
        Check.due("correct(0, 40960)", t.correct(0, 40960), 0);
        Check.due("rejected()", t.rejected(), 1);
        Check.due("innovation()", t.innovation(), 40960);
        Check.due("level()", t.level(), 0);
        Check.due("setGate(0)", t.setGate(0), 1);
        Check.due("correct(0, 40960)", t.correct(0, 40960), 1);
        Check.due("level()", t.level(), 20480);
    }

    private static void forecastsWithoutNoise() {
        TankFilter t = new TankFilter();
        Check.due("reset(0, 4096, 4096, 0)", t.reset(0, 4096, 4096, 0), 0);
        Check.due("setProcessNoise(0, 0)", t.setProcessNoise(0, 0), 64);
        Check.due("forecast(3)", t.forecast(3), 12288);
        Check.due("stepsTo(10000)", t.stepsTo(10000), 3);
        Check.due("stepsTo(-1)", t.stepsTo(-1), -2000000001);
        Check.due("forecastVariance(3)", t.forecastVariance(3), 4096);
    }

    private static void overflowAndAnotherError() {
        TankFilter t = new TankFilter();
        Check.due("reset()", t.reset(40960000, 4096000, 40960000, 40960000), 0);
        Check.due("forecastVariance(100)", t.forecastVariance(100), -2000000004);
        Check.due("errorCount(2)", t.errorCount(2), 1);
        Check.due("correct(7, 0)", t.correct(7, 0), -2000000002);
        Check.due("errorCount(0)", t.errorCount(0), 1);
    }

    private static void replays() {
        TankFilter t = new TankFilter();
        Check.due("replayError(0)", t.replayError(0), -2000000003);
        Check.due("errorCount(1)", t.errorCount(1), 1);
        Check.due("correct(0, 4096)", t.correct(0, 4096), 1);
        Check.due("predict(0)", t.predict(0), 2048);
        Check.due("correct(0, 8192)", t.correct(0, 8192), 1);
        Check.due("replayError(64)", t.replayError(64), 2664);
        Check.due("bestFlowNoise()", t.bestFlowNoise(), 0);
    }

    private static void readme() {
        TankFilter t = new TankFilter();
        Check.due("setSensor(1, FLOW, 2048)", t.setSensor(1, TankFilter.FLOW, 2048), 4096);
        Check.due("predict(0)", t.predict(0), 0);
        Check.due("correct(0, 8192)", t.correct(0, 8192), 1);
        Check.due("level()", t.level(), 5462);
        Check.due("correct(1, 4096)", t.correct(1, 4096), 1);
        Check.due("flow()", t.flow(), 3518);
        Check.due("forecast(10)", t.forecast(10), 41027);
        Check.due("undo()", t.undo(), 3);
        Check.due("level() after undo()", t.level(), 5462);
        Check.due("correct(4, 0)", t.correct(4, 0), TankFilter.INVALID);
        Check.due("errorCount(0)", t.errorCount(0), 1);
    }
}
