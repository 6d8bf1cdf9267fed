/** A Kalman filter for the level of a tank with an unknown flow, in fixed-point integer arithmetic. */
public final class TankFilter {
    public static final int NONE = -2000000001;
    public static final int INVALID = -2000000002;
    public static final int REJECTED = -2000000003;
    public static final int OVERFLOW = -2000000004;
    public static final int LEVEL = 0, FLOW = 1;

    private static final long ONE = 4096;
    private static final long LIMIT = 1000000000L;

    private static final int LEVEL_BOUND = 40960000;
    private static final int FLOW_BOUND = 4096000;
    private static final int VARIANCE_BOUND = 40960000;
    private static final int NOISE_BOUND = 4096000;
    private static final int GATE_BOUND = 25;
    private static final int STEPS_BOUND = 100;
    private static final int CYCLES_BOUND = 300;

    private static final int SENSORS = 4;
    private static final int HISTORY_LENGTH = 24;
    private static final int UNDO_DEPTH = 4;
    private static final int ERROR_KINDS = 3;

    /** Stands in the history where a reading has the number of its sensor. */
    private static final int PREDICTION = -1;

    private static final int READING_ACCEPTED = 1;
    private static final int READING_REJECTED = 0;

    private static final int NO_GATE = 0;

    private static final int[] FLOW_NOISE_CANDIDATES = {
        0, 1, 4, 16, 64, 256, 1024, 4096, 16384, 65536, 262144, 1048576
    };

    private final Memory now = new Memory();
    private final Memory[] saved = new Memory[UNDO_DEPTH];
    private int savedCount = 0;
    private final int[] errors = new int[ERROR_KINDS];

    /** All that may fail or must change nothing is calculated here, never on the present estimate. */
    private final Estimate trial = new Estimate();

    public TankFilter() {
        for (int i = 0; i < saved.length; i++) {
            saved[i] = new Memory();
        }
    }

    // ---- settings

    public int reset(int level, int flow, int levelVariance, int flowVariance) {
        if (isOutside(level, -LEVEL_BOUND, LEVEL_BOUND)
                || isOutside(flow, -FLOW_BOUND, FLOW_BOUND)
                || isOutside(levelVariance, 0, VARIANCE_BOUND)
                || isOutside(flowVariance, 0, VARIANCE_BOUND)) {
            return fail(INVALID);
        }
        save();
        int entries = now.history.size;
        now.estimate.startFrom(level, flow, levelVariance, flowVariance);
        now.history.size = 0;
        now.acceptedCount = 0;
        now.rejectedCount = 0;
        now.missedCount = 0;
        return entries;
    }

    public int setProcessNoise(int levelNoise, int flowNoise) {
        if (isOutside(levelNoise, 0, NOISE_BOUND) || isOutside(flowNoise, 0, NOISE_BOUND)) {
            return fail(INVALID);
        }
        save();
        int previous = now.flowNoise;
        now.levelNoise = levelNoise;
        now.flowNoise = flowNoise;
        return previous;
    }

    public int setSensor(int sensor, int kind, int variance) {
        if (!isSensor(sensor) || !isKind(kind) || isOutside(variance, 1, VARIANCE_BOUND)) {
            return fail(INVALID);
        }
        save();
        int previous = now.sensorVariances[sensor];
        now.sensorKinds[sensor] = kind;
        now.sensorVariances[sensor] = variance;
        return previous;
    }

    public int setGate(int gate) {
        if (isOutside(gate, 0, GATE_BOUND)) {
            return fail(INVALID);
        }
        save();
        int previous = now.gate;
        now.gate = gate;
        return previous;
    }

    // ---- filtering

    public int predict(int inflow) {
        if (isOutside(inflow, -FLOW_BOUND, FLOW_BOUND)) {
            return fail(INVALID);
        }
        trial.copyFrom(now.estimate);
        if (!trial.advance(inflow, now.levelNoise, now.flowNoise)) {
            return fail(OVERFLOW);
        }
        save();
        now.estimate.copyFrom(trial);
        now.history.append(PREDICTION, inflow);
        return (int) now.estimate.level;
    }

    public int correct(int sensor, int reading) {
        if (!isSensor(sensor) || isOutside(reading, -LEVEL_BOUND, LEVEL_BOUND)) {
            return fail(INVALID);
        }
        trial.copyFrom(now.estimate);
        int outcome = trial.take(
                reading, now.sensorKinds[sensor], now.sensorVariances[sensor], now.gate);
        if (outcome == OVERFLOW) {
            return fail(OVERFLOW);
        }
        save();
        now.estimate.copyFrom(trial);
        now.history.append(sensor, reading);
        if (outcome == READING_ACCEPTED) {
            now.acceptedCount++;
        } else {
            now.rejectedCount++;
        }
        return outcome;
    }

    public int miss(int sensor) {
        if (!isSensor(sensor)) {
            return fail(INVALID);
        }
        save();
        now.missedCount++;
        return now.missedCount;
    }

    // ---- state

    public int level() {
        return (int) now.estimate.level;
    }

    public int flow() {
        return (int) now.estimate.flow;
    }

    public int levelVariance() {
        return (int) now.estimate.levelVariance;
    }

    public int covariance() {
        return (int) now.estimate.covariance;
    }

    public int flowVariance() {
        return (int) now.estimate.flowVariance;
    }

    public int innovation() {
        return (int) now.estimate.innovation;
    }

    public int levelGain() {
        return (int) now.estimate.levelGain;
    }

    public int flowGain() {
        return (int) now.estimate.flowGain;
    }

    public int accepted() {
        return now.acceptedCount;
    }

    public int rejected() {
        return now.rejectedCount;
    }

    public int missed() {
        return now.missedCount;
    }

    public int historyLength() {
        return now.history.size;
    }

    // ---- forecasts; they change nothing

    public int forecast(int steps) {
        if (isOutside(steps, 0, STEPS_BOUND)) {
            return fail(INVALID);
        }
        return runPredictions(steps) ? (int) trial.level : fail(OVERFLOW);
    }

    public int forecastVariance(int steps) {
        if (isOutside(steps, 0, STEPS_BOUND)) {
            return fail(INVALID);
        }
        return runPredictions(steps) ? (int) trial.levelVariance : fail(OVERFLOW);
    }

    public int stepsTo(int target) {
        if (isOutside(target, -LEVEL_BOUND, LEVEL_BOUND)) {
            return fail(INVALID);
        }
        trial.copyFrom(now.estimate);
        boolean fromBelow = trial.level < target;
        for (int steps = 0; steps <= STEPS_BOUND; steps++) {
            if (fromBelow ? trial.level >= target : trial.level <= target) {
                return steps;
            }
            if (!trial.advance(0, now.levelNoise, now.flowNoise)) {
                return NONE;
            }
        }
        return NONE;
    }

    // ---- steady gain and best noise; they change nothing

    public int steadyCycles(int sensor) {
        if (!isSensor(sensor)) {
            return fail(INVALID);
        }
        return runCyclesUntilSteady(now.sensorKinds[sensor], now.sensorVariances[sensor]);
    }

    public int steadyGain(int sensor, int kind) {
        if (!isSensor(sensor) || !isKind(kind)) {
            return fail(INVALID);
        }
        int cycles = runCyclesUntilSteady(now.sensorKinds[sensor], now.sensorVariances[sensor]);
        if (cycles == NONE) {
            return NONE;
        }
        return (int) (kind == LEVEL ? trial.levelGain : trial.flowGain);
    }

    public int replayError(int flowNoise) {
        if (isOutside(flowNoise, 0, NOISE_BOUND)) {
            return fail(INVALID);
        }
        if (!now.history.hasReading()) {
            return fail(REJECTED);
        }
        int error = runReplay(flowNoise);
        return error == OVERFLOW ? fail(OVERFLOW) : error;
    }

    public int bestFlowNoise() {
        if (!now.history.hasReading()) {
            return fail(REJECTED);
        }
        int best = NONE;
        long bestError = LIMIT + 1;
        for (int i = 0; i < FLOW_NOISE_CANDIDATES.length; i++) {
            int error = runReplay(FLOW_NOISE_CANDIDATES[i]);
            if (error != OVERFLOW && error < bestError) {
                best = FLOW_NOISE_CANDIDATES[i];
                bestError = error;
            }
        }
        return best;
    }

    // ---- undo and errors

    public int undo() {
        if (savedCount <= 0 || savedCount > saved.length) {
            return fail(REJECTED);
        }
        savedCount--;
        now.copyFrom(saved[savedCount]);
        return savedCount;
    }

    public int errorCount(int kind) {
        if (isOutside(kind, 0, ERROR_KINDS - 1)) {
            return fail(INVALID);
        }
        return errors[kind];
    }

    public long digest() {
        long hash = 12254;
        for (int i = 0; i < errors.length; i++) {
            hash = mix(hash, errors[i]);
        }
        hash = mix(hash, savedCount);
        return now.mixInto(hash);
    }

    // ---- the parts

    private static boolean isOutside(int value, int low, int high) {
        return value < low || value > high;
    }

    private static boolean isSensor(int sensor) {
        return !isOutside(sensor, 0, SENSORS - 1);
    }

    private static boolean isKind(int kind) {
        return kind == LEVEL || kind == FLOW;
    }

    private static boolean isInLimit(long number) {
        return number >= -LIMIT && number <= LIMIT;
    }

    private static long times(long a, long b) {
        return Math.floorDiv(a * b + ONE / 2, ONE);
    }

    private static long dividedBy(long a, long b) {
        // Every variance of an innovation is at least 1, so that no caller sees this 0.
        if (b <= 0) {
            return 0;
        }
        return Math.floorDiv(a * ONE + b / 2, b);
    }

    private static long mix(long hash, long value) {
        return 31 * hash + value;
    }

    private static void copyRow(int[] from, int[] to) {
        for (int i = 0; i < from.length && i < to.length; i++) {
            to[i] = from[i];
        }
    }

    private int fail(int error) {
        int kind = INVALID - error;
        if (kind >= 0 && kind < errors.length) {
            errors[kind]++;
        }
        return error;
    }

    private void save() {
        if (savedCount >= saved.length) {
            dropOldestSaved();
        }
        if (savedCount >= 0 && savedCount < saved.length) {
            saved[savedCount].copyFrom(now);
            savedCount++;
        }
    }

    private void dropOldestSaved() {
        Memory oldest = saved[0];
        for (int i = 1; i < saved.length; i++) {
            saved[i - 1] = saved[i];
        }
        // The dropped row is used again for the state that is saved next.
        saved[saved.length - 1] = oldest;
        savedCount = saved.length - 1;
    }

    private boolean runPredictions(int steps) {
        trial.copyFrom(now.estimate);
        for (int i = 0; i < steps; i++) {
            if (!trial.advance(0, now.levelNoise, now.flowNoise)) {
                return false;
            }
        }
        return true;
    }

    private int runCyclesUntilSteady(int kind, int variance) {
        trial.copyFrom(now.estimate);
        for (int cycle = 1; cycle <= CYCLES_BOUND; cycle++) {
            long a = trial.levelVariance;
            long b = trial.covariance;
            long c = trial.flowVariance;
            if (!trial.advance(0, now.levelNoise, now.flowNoise)
                    || trial.take(trial.mean(kind), kind, variance, NO_GATE) == OVERFLOW) {
                return NONE;
            }
            if (trial.levelVariance == a && trial.covariance == b && trial.flowVariance == c) {
                return cycle;
            }
        }
        return NONE;
    }

    private int runReplay(int flowNoise) {
        trial.copyFrom(now.estimate);
        long sum = 0;
        for (int i = 0; i < now.history.size && i < HISTORY_LENGTH; i++) {
            int source = now.history.sources[i];
            int value = now.history.values[i];
            if (isSensor(source)) {
                int outcome = trial.take(
                        value, now.sensorKinds[source], now.sensorVariances[source], NO_GATE);
                if (outcome == OVERFLOW) {
                    return OVERFLOW;
                }
                sum += Math.abs(trial.innovation);
            } else if (!trial.advance(value, now.levelNoise, flowNoise)) {
                return OVERFLOW;
            }
        }
        return isInLimit(sum) ? (int) sum : OVERFLOW;
    }

    /** The state of the filter and what its latest readings left behind. */
    private static final class Estimate {
        private long level = 0;
        private long flow = 0;
        private long levelVariance = ONE;
        private long covariance = 0;
        private long flowVariance = ONE;
        private long innovation = NONE;
        private long levelGain = NONE;
        private long flowGain = NONE;

        private void startFrom(int level, int flow, int levelVariance, int flowVariance) {
            this.level = level;
            this.flow = flow;
            this.levelVariance = levelVariance;
            this.covariance = 0;
            this.flowVariance = flowVariance;
            this.innovation = NONE;
            this.levelGain = NONE;
            this.flowGain = NONE;
        }

        private void copyFrom(Estimate other) {
            level = other.level;
            flow = other.flow;
            levelVariance = other.levelVariance;
            covariance = other.covariance;
            flowVariance = other.flowVariance;
            innovation = other.innovation;
            levelGain = other.levelGain;
            flowGain = other.flowGain;
        }

        private long mean(int kind) {
            return kind == LEVEL ? level : flow;
        }

        /** Performs a prediction; changes nothing and answers false if it fails. */
        private boolean advance(long inflow, long levelNoise, long flowNoise) {
            return move(
                    level + flow + inflow,
                    flow,
                    levelVariance + 2 * covariance + flowVariance + levelNoise,
                    covariance + flowVariance,
                    flowVariance + flowNoise);
        }

        /** Performs a correction; changes nothing if the answer is OVERFLOW. */
        private int take(long reading, int kind, long variance, long gate) {
            boolean ofLevel = kind == LEVEL;
            long withLevel = ofLevel ? levelVariance : covariance;
            long withFlow = ofLevel ? covariance : flowVariance;
            long y = reading - mean(kind);
            long s = (ofLevel ? levelVariance : flowVariance) + variance;
            if (gate != NO_GATE && y * y > gate * s * ONE) {
                innovation = y;
                return READING_REJECTED;
            }
            long k = dividedBy(withLevel, s);
            long l = dividedBy(withFlow, s);
            // Gains that left the limit could overflow a long in the products below.
            if (!isInLimit(k) || !isInLimit(l)) {
                return OVERFLOW;
            }
            boolean moved = move(
                    level + times(k, y),
                    flow + times(l, y),
                    levelVariance - times(k, withLevel),
                    covariance - times(k, withFlow),
                    flowVariance - times(l, withFlow));
            if (!moved) {
                return OVERFLOW;
            }
            innovation = y;
            levelGain = k;
            flowGain = l;
            return READING_ACCEPTED;
        }

        private boolean move(long x, long v, long a, long b, long c) {
            long raisedA = Math.max(a, 0L);
            long raisedC = Math.max(c, 0L);
            if (!isInLimit(x) || !isInLimit(v)
                    || !isInLimit(raisedA) || !isInLimit(b) || !isInLimit(raisedC)) {
                return false;
            }
            level = x;
            flow = v;
            levelVariance = raisedA;
            covariance = b;
            flowVariance = raisedC;
            return true;
        }

        private long mixStateInto(long hash) {
            hash = mix(hash, level);
            hash = mix(hash, flow);
            hash = mix(hash, levelVariance);
            hash = mix(hash, covariance);
            return mix(hash, flowVariance);
        }

        private long mixLatestReadingInto(long hash) {
            hash = mix(hash, innovation);
            hash = mix(hash, levelGain);
            return mix(hash, flowGain);
        }
    }

    /** The latest predictions and readings, from the oldest one on. */
    private static final class History {
        private final int[] sources = new int[HISTORY_LENGTH];
        private final int[] values = new int[HISTORY_LENGTH];
        private int size = 0;

        private void append(int source, int value) {
            if (size >= HISTORY_LENGTH) {
                dropOldest();
            }
            if (size >= 0 && size < HISTORY_LENGTH) {
                sources[size] = source;
                values[size] = value;
                size++;
            }
        }

        private void dropOldest() {
            for (int i = 1; i < HISTORY_LENGTH; i++) {
                sources[i - 1] = sources[i];
                values[i - 1] = values[i];
            }
            size = HISTORY_LENGTH - 1;
        }

        private boolean hasReading() {
            for (int i = 0; i < size && i < HISTORY_LENGTH; i++) {
                if (sources[i] != PREDICTION) {
                    return true;
                }
            }
            return false;
        }

        private void copyFrom(History other) {
            copyRow(other.sources, sources);
            copyRow(other.values, values);
            size = other.size;
        }

        private long mixInto(long hash) {
            for (int i = 0; i < size && i < HISTORY_LENGTH; i++) {
                hash = mix(hash, sources[i]);
                hash = mix(hash, values[i]);
            }
            return hash;
        }
    }

    /** Everything that undo() restores. */
    private static final class Memory {
        private final Estimate estimate = new Estimate();
        private int levelNoise = 0;
        private int flowNoise = 64;
        private int gate = 9;
        private final int[] sensorKinds = new int[SENSORS];
        private final int[] sensorVariances = new int[SENSORS];
        private int acceptedCount = 0;
        private int rejectedCount = 0;
        private int missedCount = 0;
        private final History history = new History();

        private Memory() {
            for (int i = 0; i < SENSORS; i++) {
                sensorKinds[i] = LEVEL;
                sensorVariances[i] = (int) ONE;
            }
        }

        private void copyFrom(Memory other) {
            estimate.copyFrom(other.estimate);
            levelNoise = other.levelNoise;
            flowNoise = other.flowNoise;
            gate = other.gate;
            copyRow(other.sensorKinds, sensorKinds);
            copyRow(other.sensorVariances, sensorVariances);
            acceptedCount = other.acceptedCount;
            rejectedCount = other.rejectedCount;
            missedCount = other.missedCount;
            history.copyFrom(other.history);
        }

        private long mixInto(long hash) {
            hash = estimate.mixStateInto(hash);
            hash = mix(hash, levelNoise);
            hash = mix(hash, flowNoise);
            hash = mix(hash, gate);
            for (int i = 0; i < SENSORS; i++) {
                hash = mix(hash, sensorKinds[i]);
                hash = mix(hash, sensorVariances[i]);
            }
            hash = estimate.mixLatestReadingInto(hash);
            hash = mix(hash, acceptedCount);
            hash = mix(hash, rejectedCount);
            hash = mix(hash, missedCount);
            hash = mix(hash, history.size);
            return history.mixInto(hash);
        }
    }
}
