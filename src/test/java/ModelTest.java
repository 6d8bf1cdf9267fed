import java.math.BigInteger;

/** Long runs of calls, ordinary and at the bounds, each answer compared with the model's. */
public final class ModelTest {
    private static final int RUNS = 1500;
    /** The document promises 512 calls; a step makes at most 14. */
    private static final int CALLS = 512 - 28;

    private long seed;
    private TankFilter real;
    private TankModel model;
    private String place;
    private int calls = 0;

    private ModelTest(long seed) {
        this.seed = seed;
    }

    public static void main(String[] args) {
        for (int run = 0; run < RUNS && Check.allRight(); run++) {
            new ModelTest(run).run(run);
        }
        Check.end();
    }

    private void run(int number) {
        real = new TankFilter();
        model = new TankModel();
        int temper = number % 6;
        while (calls < CALLS && Check.allRight()) {
            place = "run " + number + ", call " + calls + ": ";
            step(temper);
            due("digest()", real.digest(), model.digest());
        }
        checkState();
    }

    private int next(int count) {
        seed = seed * 6364136223846793005L + 1442695040888963407L;
        return (int) ((seed >>> 33) % count);
    }

    private void due(String call, long got, long want) {
        calls++;
        Check.due(place + call, got, want);
    }

    /** A number from low to high; often near an end or near 0, sometimes just outside. */
    private int between(int low, int high, int temper) {
        switch (next(temper < 2 ? 40 : 10)) {
            case 0: return next(4) == 0 ? low - 1 : low;
            case 1: return next(4) == 0 ? high + 1 : high;
            case 2: return Math.min(high, Math.max(low, next(9) - 4));
            case 3: return Math.min(high, Math.max(low, next(8193) - 4096));
            case 4: return Math.min(high, low + next(1000));
            default:
        }
        int span = temper % 2 == 0 ? Math.min(high - low + 1, 200000) : high - low + 1;
        int middle = low < 0 ? -span / 2 : low;
        return middle + next(span);
    }

    private int sensor() {
        int n = next(60);
        return n == 0 ? -1 : n == 1 ? 4 : n % 4;
    }

    private int kind() {
        int n = next(60);
        return n == 0 ? -1 : n == 1 ? 2 : n % 2;
    }

    private void step(int temper) {
        int which = next(temper < 4 ? 60 : 44);
        if (which < 22) {
            filtering(which, temper);
        } else if (which < 30) {
            settings(which, temper);
        } else if (which < 44) {
            questions(which, temper);
        } else {
            filtering(which % 22, temper);
        }
    }

    private void filtering(int which, int temper) {
        if (which < 9) {
            int u = next(2) == 0 ? 0 : between(-4096000, 4096000, temper);
            due("predict(" + u + ")", real.predict(u), model.predict(u));
        } else if (which < 19) {
            int i = sensor();
            int z = reading(temper);
            due("correct(" + i + ", " + z + ")", real.correct(i, z), model.correct(i, z));
        } else if (which < 20) {
            int i = sensor();
            due("miss(" + i + ")", real.miss(i), model.miss(i));
        } else {
            due("undo()", real.undo(), model.undo());
        }
    }

    /** Often near the estimate, so that the gate lets it pass. */
    private int reading(int temper) {
        BigInteger near = next(2) == 0 ? model.s.filter.x : model.s.filter.v;
        if (next(3) > 0 && near.abs().intValueExact() < 40000000) {
            return near.intValueExact() + next(20001) - 10000;
        }
        return between(-40960000, 40960000, temper);
    }

    private void settings(int which, int temper) {
        if (which == 22) {
            int x = between(-40960000, 40960000, temper);
            int v = between(-4096000, 4096000, temper);
            int a = between(0, 40960000, temper);
            int c = between(0, 40960000, temper);
            due("reset(" + x + ", " + v + ", " + a + ", " + c + ")",
                    real.reset(x, v, a, c), model.reset(x, v, a, c));
        } else if (which < 25) {
            int q = between(0, 4096000, temper);
            int w = between(0, 4096000, temper);
            due("setProcessNoise(" + q + ", " + w + ")",
                    real.setProcessNoise(q, w), model.setProcessNoise(q, w));
        } else if (which < 28) {
            int i = sensor();
            int kind = kind();
            int r = between(1, 40960000, temper);
            due("setSensor(" + i + ", " + kind + ", " + r + ")",
                    real.setSensor(i, kind, r), model.setSensor(i, kind, r));
        } else {
            int g = between(0, 25, temper);
            due("setGate(" + g + ")", real.setGate(g), model.setGate(g));
        }
    }

    private void questions(int which, int temper) {
        int i = sensor();
        int kind = kind();
        int steps = between(0, 100, temper);
        int target = reading(temper);
        int w = between(0, 4096000, temper);
        switch (which) {
            case 30: due("forecast(" + steps + ")", real.forecast(steps), model.forecast(steps)); break;
            case 31:
                due("forecastVariance(" + steps + ")", real.forecastVariance(steps), model.forecastVariance(steps));
                break;
            case 32: due("stepsTo(" + target + ")", real.stepsTo(target), model.stepsTo(target)); break;
            case 33: due("steadyCycles(" + i + ")", real.steadyCycles(i), model.steadyCycles(i)); break;
            case 34:
                due("steadyGain(" + i + ", " + kind + ")", real.steadyGain(i, kind), model.steadyGain(i, kind));
                break;
            case 35: due("replayError(" + w + ")", real.replayError(w), model.replayError(w)); break;
            case 36: due("bestFlowNoise()", real.bestFlowNoise(), model.bestFlowNoise()); break;
            case 37: due("errorCount(" + kind + ")", real.errorCount(kind), model.errorCount(kind)); break;
            case 38: due("errorCount(" + i + ")", real.errorCount(i), model.errorCount(i)); break;
            default: checkState();
        }
    }

    private void checkState() {
        due("level()", real.level(), model.s.filter.x.longValueExact());
        due("flow()", real.flow(), model.s.filter.v.longValueExact());
        due("levelVariance()", real.levelVariance(), model.s.filter.a.longValueExact());
        due("covariance()", real.covariance(), model.s.filter.b.longValueExact());
        due("flowVariance()", real.flowVariance(), model.s.filter.c.longValueExact());
        due("innovation()", real.innovation(), model.innovation());
        due("levelGain()", real.levelGain(), model.levelGain());
        due("flowGain()", real.flowGain(), model.flowGain());
        due("accepted()", real.accepted(), model.s.accepted);
        due("rejected()", real.rejected(), model.s.rejected);
        due("missed()", real.missed(), model.s.missed);
        due("historyLength()", real.historyLength(), model.s.history.size());
    }
}
