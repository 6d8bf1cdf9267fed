/** Promises 24 to 27: the steady gain and the best noise. */
public final class NoiseTest {
    private static final int MIN = Integer.MIN_VALUE;
    private static final int MAX = Integer.MAX_VALUE;
    private static final int[] CANDIDATES = {
        0, 1, 4, 16, 64, 256, 1024, 4096, 16384, 65536, 262144, 1048576
    };

    public static void main(String[] args) {
        promises24And25SteadySoon();
        promises24And25SteadyAfterTheLastCycle();
        promises24And25FlowSensor();
        promises24And25GateDoesNotMatter();
        promises24And25LevelInTheLimit(1);
        promises24And25LevelInTheLimit(-1);
        promises24And25Failures();
        promises24And25WrongArguments();
        promise26ReplayError();
        promise26ReplaysPresentSensors();
        promise26ReplaysTheLatestEntries();
        promise26Errors();
        promise26StepOverflow();
        promise26SumInTheLimit();
        promise27BestFlowNoise();
        promise27EachCandidate();
        promise27LeavesOut();
        promise27Ties();
        Check.end();
    }

    private static TankFilter quiet(int level, int flow, int levelVariance, int flowVariance) {
        TankFilter t = new TankFilter();
        t.setProcessNoise(0, 0);
        t.reset(level, flow, levelVariance, flowVariance);
        return t;
    }

    private static void steady(TankFilter t, int sensor, int cycles, int levelGain, int flowGain) {
        Check.asks("steadyCycles(" + sensor + ")", t, cycles, () -> t.steadyCycles(sensor));
        Check.asks("steadyGain(" + sensor + ", LEVEL)", t, levelGain, () -> t.steadyGain(sensor, TankFilter.LEVEL));
        Check.asks("steadyGain(" + sensor + ", FLOW)", t, flowGain, () -> t.steadyGain(sensor, TankFilter.FLOW));
    }

    private static void promises24And25SteadySoon() {
        steady(quiet(5, 6, 0, 0), 0, 1, 0, 0);
        // a becomes 1 by the noise, and the correction takes it away again.
        TankFilter t = quiet(5, 6, 0, 0);
        t.setProcessNoise(1, 0);
        t.setSensor(3, TankFilter.LEVEL, 1);
        steady(t, 3, 1, 2048, 0);
        // With r = 4096 the gain is about a: it takes nothing away before a is 46.
        steady(t, 0, 46, 45, 0);
    }

    private static void promises24And25SteadyAfterTheLastCycle() {
        TankFilter t = quiet(0, 0, 4096, 0);
        t.setProcessNoise(0, 1);
        t.setSensor(0, TankFilter.LEVEL, 6721513);
        t.setSensor(1, TankFilter.LEVEL, 5881324);
        steady(t, 0, 300, 111, 2);
        steady(t, 1, TankFilter.NONE, TankFilter.NONE, TankFilter.NONE);
    }

    private static void promises24And25FlowSensor() {
        TankFilter t = quiet(0, 0, 10, 0);
        t.setSensor(2, TankFilter.FLOW, 10);
        steady(t, 2, 1, 0, 0);
        t.setProcessNoise(0, 10);
        t.setSensor(2, TankFilter.FLOW, 20);
        int[] expected = cyclesOfAFlowSensor(10, 0, 0, 20, 10);
        steady(t, 2, expected[0], expected[1], expected[2]);
    }

    /** The number of the steady cycle and its gains, by the document's formulas for a flow sensor. */
    private static int[] cyclesOfAFlowSensor(long a, long b, long c, long r, long w) {
        for (int cycle = 1; cycle <= 300; cycle++) {
            long pa = a + 2 * b + c;
            long pb = b + c;
            long pc = c + w;
            long s = pc + r;
            long k = Math.floorDiv(pb * 4096 + s / 2, s);
            long l = Math.floorDiv(pc * 4096 + s / 2, s);
            long na = Math.max(0, pa - Math.floorDiv(k * pb + 2048, 4096L));
            long nb = pb - Math.floorDiv(k * pc + 2048, 4096L);
            long nc = Math.max(0, pc - Math.floorDiv(l * pc + 2048, 4096L));
            if (na == a && nb == b && nc == c) {
                return new int[] {cycle, (int) k, (int) l};
            }
            a = na;
            b = nb;
            c = nc;
        }
        return new int[] {TankFilter.NONE, TankFilter.NONE, TankFilter.NONE};
    }

    private static void promises24And25GateDoesNotMatter() {
        TankFilter t = quiet(40000000, 4096000, 0, 0);
        for (int i = 0; i < 10; i++) {
            t.predict(4096000);
        }
        for (int gate : new int[] {0, 1, 25}) {
            t.setGate(gate);
            steady(t, 0, 1, 0, 0);
        }
    }

    private static void promises24And25LevelInTheLimit(int sign) {
        TankFilter t = quiet(sign * 40960000, sign * 4096000, 0, 0);
        for (int i = 1; i <= 116; i++) {
            t.predict(sign * 4096000);
        }
        t.predict(sign * 576000);
        Check.due("level()", t.level(), sign * (1000000000 - 4096000));
        // The first cycle takes x just to the limit.
        steady(t, 0, 1, 0, 0);
        t.predict(sign * -4095999);
        steady(t, 0, TankFilter.NONE, TankFilter.NONE, TankFilter.NONE);
    }

    private static void promises24And25Failures() {
        TankFilter t = quiet(40960000, 4096000, 0, 0);
        for (int i = 1; i <= 117; i++) {
            t.predict(4096000);
        }
        steady(t, 0, TankFilter.NONE, TankFilter.NONE, TankFilter.NONE);
        t.predict(-4096000);
        steady(t, 0, TankFilter.NONE, TankFilter.NONE, TankFilter.NONE);
        Check.due("errorCount(2)", t.errorCount(2), 0);
        TankFilter uncertain = quiet(0, 0, 40960000, 40960000);
        uncertain.setSensor(0, TankFilter.FLOW, 40960000);
        uncertain.setProcessNoise(4096000, 4096000);
        steady(uncertain, 0, TankFilter.NONE, TankFilter.NONE, TankFilter.NONE);
    }

    private static void promises24And25WrongArguments() {
        TankFilter t = quiet(0, 0, 0, 0);
        for (int bad : new int[] {-1, 4, MIN, MAX}) {
            Check.invalid("steadyCycles(" + bad + ")", t, () -> t.steadyCycles(bad));
            Check.invalid("steadyGain(" + bad + ", 0)", t, () -> t.steadyGain(bad, 0));
        }
        for (int bad : new int[] {-1, 2, MIN, MAX}) {
            Check.invalid("steadyGain(0, " + bad + ")", t, () -> t.steadyGain(0, bad));
        }
        Check.asks("steadyCycles(3)", t, 1, () -> t.steadyCycles(3));
        Check.asks("steadyGain(3, 1)", t, 0, () -> t.steadyGain(3, 1));
    }

    private static void promise26ReplayError() {
        TankFilter t = quiet(0, 0, 0, 0);
        t.setGate(1);
        t.predict(100);
        Check.due("correct(0, 150)", t.correct(0, 150), 1);
        Check.due("correct(0, 40960000)", t.correct(0, 40960000), 0);
        t.predict(-30);
        Check.due("correct(0, 60)", t.correct(0, 60), 1);
        // No gain, so that x is 70, 170 and 140 in the replay.
        Check.state("before the replay", t, 70, 0, 0, 0, 0);
        Check.asks("replayError(0)", t, 20 + (40960000 - 170) + 80, () -> t.replayError(0));
    }

    private static void promise26ReplaysPresentSensors() {
        TankFilter t = quiet(1000, 7, 0, 0);
        t.correct(2, 1100);
        Check.asks("replayError(0) of a level sensor", t, 100, () -> t.replayError(0));
        t.setSensor(2, TankFilter.FLOW, 1);
        Check.asks("replayError(0) of a flow sensor", t, 1093, () -> t.replayError(0));
        t.reset(0, 0, 0, 0);
        t.setSensor(2, TankFilter.LEVEL, 4096);
        t.predict(0);
        t.predict(0);
        t.correct(2, 4096);
        t.correct(2, 4096);
        // With the noise 4096 and r = 4096 the first reading takes x to the middle.
        Check.asks("replayError(0)", t, 8192, () -> t.replayError(0));
        Check.asks("replayError(4096)", t, 4096 + 2048, () -> t.replayError(4096));
        t.setSensor(2, TankFilter.LEVEL, 12288);
        Check.asks("replayError(4096) with more r", t, 4096 + 3072, () -> t.replayError(4096));
        t.setProcessNoise(4096, 9);
        t.setSensor(2, TankFilter.LEVEL, 8192);
        Check.asks("replayError(0) with the present q", t, 4096 + 2048, () -> t.replayError(0));
    }

    private static void promise26ReplaysTheLatestEntries() {
        TankFilter t = quiet(0, 0, 0, 0);
        t.setGate(0);
        for (int i = 1; i <= 30; i++) {
            t.correct(0, i);
        }
        // The readings 7 to 30 are left.
        Check.asks("replayError(0)", t, 30 * 31 / 2 - 6 * 7 / 2, () -> t.replayError(0));
        for (int i = 1; i <= 23; i++) {
            t.predict(0);
        }
        Check.asks("replayError(0) of the last reading", t, 30, () -> t.replayError(0));
        t.predict(0);
        Check.fails("replayError(0) of predictions", t, TankFilter.REJECTED, () -> t.replayError(0));
    }

    private static void promise26Errors() {
        TankFilter t = quiet(0, 0, 0, 0);
        Check.fails("replayError(0) without an entry", t, TankFilter.REJECTED, () -> t.replayError(0));
        t.predict(0);
        t.miss(0);
        Check.fails("replayError(0) without a reading", t, TankFilter.REJECTED, () -> t.replayError(0));
        Check.invalid("INVALID before REJECTED", t, () -> t.replayError(-1));
        t.correct(0, 40960000);
        Check.due("rejected()", t.rejected(), 1);
        Check.asks("replayError(0) of a rejected reading", t, 40960000, () -> t.replayError(0));
        Check.asks("replayError(4096000)", t, 40960000, () -> t.replayError(4096000));
        for (int bad : new int[] {-1, 4096001, MIN, MAX}) {
            Check.invalid("replayError(" + bad + ")", t, () -> t.replayError(bad));
        }
    }

    private static void promise26StepOverflow() {
        TankFilter t = quiet(0, 0, 0, 0);
        for (int i = 0; i < 20; i++) {
            t.predict(0);
        }
        Check.fails("REJECTED before OVERFLOW", t, TankFilter.REJECTED, () -> t.replayError(4096000));
        t.correct(0, 0);
        Check.asks("replayError(0)", t, 0, () -> t.replayError(0));
        Check.fails("replayError(4096000) by a prediction", t, TankFilter.OVERFLOW, () -> t.replayError(4096000));
        TankFilter swung = quiet(0, 0, 0, 4096);
        for (int i = 0; i < 30; i++) {
            swung.predict(0);
        }
        swung.setSensor(1, TankFilter.FLOW, 1);
        Check.due("correct(1, 40960000)", swung.correct(1, 40960000), 0);
        // Without a gate the reading would take the level above the limit.
        Check.fails("replayError(0) by a correction", swung, TankFilter.OVERFLOW, () -> swung.replayError(0));
    }

    private static void promise26SumInTheLimit() {
        TankFilter t = quiet(40960000, 0, 0, 0);
        for (int i = 0; i < 12; i++) {
            t.correct(0, -40960000);
        }
        t.correct(0, 40960000 - 16960000);
        Check.asks("replayError(0) in the limit", t, 1000000000, () -> t.replayError(0));
        Check.asks("bestFlowNoise() in the limit", t, 0, t::bestFlowNoise);
        t.correct(0, 40960000);
        Check.asks("replayError(0) in the limit", t, 1000000000, () -> t.replayError(0));
        t.correct(0, 40960000 - 1);
        Check.fails("replayError(0) above the limit", t, TankFilter.OVERFLOW, () -> t.replayError(0));
        Check.asks("bestFlowNoise()", t, TankFilter.NONE, t::bestFlowNoise);
    }

    private static void promise27BestFlowNoise() {
        TankFilter t = quiet(0, 0, 0, 0);
        Check.fails("bestFlowNoise() without an entry", t, TankFilter.REJECTED, t::bestFlowNoise);
        t.predict(0);
        Check.fails("bestFlowNoise() without a reading", t, TankFilter.REJECTED, t::bestFlowNoise);
        t.predict(0);
        t.correct(0, 4096);
        t.correct(0, 4096);
        t.correct(0, 4096);
        // All readings are the same: the more noise, the sooner x follows them.
        Check.asks("bestFlowNoise()", t, 1048576, t::bestFlowNoise);
        t.correct(0, 0);
        t.correct(0, 0);
        t.correct(0, 0);
        t.correct(0, 0);
        Check.asks("bestFlowNoise()", t, smallestOf(t), t::bestFlowNoise);
        for (int slope : new int[] {-30, 100, 700, 5000}) {
            TankFilter wave = new TankFilter();
            wave.setGate(0);
            for (int i = 0; i < 12; i++) {
                wave.predict(0);
                wave.correct(0, slope * i * i + (i % 3) * 400);
            }
            Check.asks("bestFlowNoise() for " + slope, wave, smallestOf(wave), wave::bestFlowNoise);
        }
    }

    /** The candidate that replayError() makes the best, asked of the filter itself. */
    private static int smallestOf(TankFilter t) {
        int best = TankFilter.NONE;
        int smallest = MAX;
        for (int candidate : CANDIDATES) {
            int error = t.replayError(candidate);
            if (error >= 0 && error < smallest) {
                smallest = error;
                best = candidate;
            }
        }
        return best;
    }

    private static void promise27EachCandidate() {
        best(0, 3100, 64, 1200, 1200, 300, -400);
        best(1, 7100, 1, -500, 4000, 2100, 4800);
        best(4, 22802, 1, 5000, 12500, 20000, 24700);
        best(16, 5860, 64, 100, 300, 4800, 3300);
        best(64, 14300, 64, 2700, 8300, 9700, 12300);
        best(256, 15322, 64, 3600, 9000, 12400, 19200);
        best(1024, 9129, 4096, 1000, 1900, 5400, 3400);
        best(4096, 12075, 4096, 2800, 8400, 8900, 13600);
        best(16384, 10838, 4096, 4500, 3900, 6600, 12000);
        best(65536, 13052, 4096, 5100, 6300, 11200, 15600);
        best(262144, 9229, 100000, 3100, 4500, 5300, 8400);
        best(1048576, 12376, 1000000, 2000, 6200, 7500, 14000);
    }

    /** A prediction before each reading, and no variance before the replay brings its noise. */
    private static void best(int candidate, int error, int variance, int... readings) {
        TankFilter t = quiet(0, 0, 0, 0);
        t.setGate(0);
        t.setSensor(0, TankFilter.LEVEL, variance);
        for (int reading : readings) {
            t.predict(0);
            t.correct(0, reading);
        }
        Check.asks("bestFlowNoise()", t, candidate, t::bestFlowNoise);
        Check.asks("replayError(" + candidate + ")", t, error, () -> t.replayError(candidate));
    }

    private static void promise27LeavesOut() {
        TankFilter t = quiet(0, 0, 0, 0);
        for (int i = 0; i < 22; i++) {
            t.predict(0);
        }
        t.correct(0, 4096);
        t.correct(0, 4096);
        // The noise 1048576 lets a leave the limit; the largest one that does not is the best.
        Check.fails("replayError(1048576)", t, TankFilter.OVERFLOW, () -> t.replayError(1048576));
        Check.due("replayError(16384)", t.replayError(16384), 4096);
        Check.asks("bestFlowNoise()", t, smallestOf(t), t::bestFlowNoise);
        TankFilter all = quiet(40960000, 0, 0, 0);
        for (int i = 0; i < 13; i++) {
            all.correct(0, -40960000);
        }
        Check.asks("bestFlowNoise() when all are left out", all, TankFilter.NONE, all::bestFlowNoise);
        Check.due("errorCount(2)", all.errorCount(2), 0);
    }

    private static void promise27Ties() {
        TankFilter t = quiet(0, 0, 0, 0);
        t.correct(0, 4096);
        Check.asks("bestFlowNoise() of one reading", t, 0, t::bestFlowNoise);
        t.reset(0, 0, 0, 0);
        t.setSensor(0, TankFilter.LEVEL, 40960000);
        t.predict(0);
        t.predict(0);
        t.correct(0, 4096);
        t.correct(0, 4096);
        // The gain is 0 for small noises: only the larger candidates come closer.
        Check.due("replayError(0)", t.replayError(0), 8192);
        Check.due("replayError(1024)", t.replayError(1024), 8192);
        Check.asks("bestFlowNoise()", t, 1048576, t::bestFlowNoise);
    }
}
