import java.math.BigInteger;
import java.util.ArrayList;
import java.util.List;

/** The document once more, in numbers without bounds and states that are copied whole; tests compare with it. */
final class TankModel {
    private static final BigInteger UNIT = BigInteger.valueOf(4096);
    private static final BigInteger LIMIT = BigInteger.valueOf(1000000000);

    /** A prediction or correction that fails. */
    static final class Overflow extends Exception {
        private static final long serialVersionUID = 1L;
    }

    /** x, v, a, b, c and the outcome of the latest correction. */
    static final class Filter {
        BigInteger x = BigInteger.ZERO;
        BigInteger v = BigInteger.ZERO;
        BigInteger a = UNIT;
        BigInteger b = BigInteger.ZERO;
        BigInteger c = UNIT;
        BigInteger y;
        BigInteger k;
        BigInteger l;

        Filter copy() {
            Filter f = new Filter();
            f.x = x;
            f.v = v;
            f.a = a;
            f.b = b;
            f.c = c;
            f.y = y;
            f.k = k;
            f.l = l;
            return f;
        }

        boolean sameCovariances(Filter other) {
            return a.equals(other.a) && b.equals(other.b) && c.equals(other.c);
        }
    }

    /** What an undo brings back. */
    static final class Saved {
        Filter filter = new Filter();
        int q = 0;
        int w = 64;
        int gate = 9;
        int[] kinds = {0, 0, 0, 0};
        int[] variances = {4096, 4096, 4096, 4096};
        int accepted = 0;
        int rejected = 0;
        int missed = 0;
        List<int[]> history = new ArrayList<>();

        Saved copy() {
            Saved s = new Saved();
            s.filter = filter.copy();
            s.q = q;
            s.w = w;
            s.gate = gate;
            s.kinds = kinds.clone();
            s.variances = variances.clone();
            s.accepted = accepted;
            s.rejected = rejected;
            s.missed = missed;
            s.history = new ArrayList<>(history);
            return s;
        }
    }

    Saved s = new Saved();
    final List<Saved> stack = new ArrayList<>();
    final int[] errors = new int[3];

    private static BigInteger big(long n) {
        return BigInteger.valueOf(n);
    }

    private static BigInteger floor(BigInteger a, BigInteger b) {
        BigInteger[] parts = a.divideAndRemainder(b);
        return parts[1].signum() < 0 ? parts[0].subtract(BigInteger.ONE) : parts[0];
    }

    private static BigInteger mul(BigInteger a, BigInteger b) {
        return floor(a.multiply(b).add(big(2048)), UNIT);
    }

    private static BigInteger div(BigInteger a, BigInteger b) {
        return floor(a.multiply(UNIT).add(floor(b, big(2))), b);
    }

    private static void demand(BigInteger... numbers) throws Overflow {
        for (BigInteger n : numbers) {
            if (n.abs().compareTo(LIMIT) > 0) {
                throw new Overflow();
            }
        }
    }

    static Filter prediction(Filter f, int u, int q, int w) throws Overflow {
        Filter n = f.copy();
        n.x = f.x.add(f.v).add(big(u));
        n.a = f.a.add(f.b.multiply(big(2))).add(f.c).add(big(q)).max(BigInteger.ZERO);
        n.b = f.b.add(f.c);
        n.c = f.c.add(big(w));
        demand(n.x, n.a, n.b, n.c);
        return n;
    }

    static boolean gateRejects(Filter f, int kind, int r, BigInteger z, int gate) {
        BigInteger y = z.subtract(kind == 0 ? f.x : f.v);
        BigInteger s = (kind == 0 ? f.a : f.c).add(big(r));
        return gate != 0 && y.multiply(y).compareTo(s.multiply(big(gate)).multiply(UNIT)) > 0;
    }

    static Filter correction(Filter f, int kind, int r, BigInteger z) throws Overflow {
        Filter n = f.copy();
        n.y = z.subtract(kind == 0 ? f.x : f.v);
        if (kind == 0) {
            BigInteger s = f.a.add(big(r));
            n.k = div(f.a, s);
            n.l = div(f.b, s);
            n.a = f.a.subtract(mul(n.k, f.a));
            n.b = f.b.subtract(mul(n.k, f.b));
            n.c = f.c.subtract(mul(n.l, f.b));
        } else {
            BigInteger s = f.c.add(big(r));
            n.k = div(f.b, s);
            n.l = div(f.c, s);
            n.a = f.a.subtract(mul(n.k, f.b));
            n.b = f.b.subtract(mul(n.k, f.c));
            n.c = f.c.subtract(mul(n.l, f.c));
        }
        n.x = f.x.add(mul(n.k, n.y));
        n.v = f.v.add(mul(n.l, n.y));
        n.a = n.a.max(BigInteger.ZERO);
        n.c = n.c.max(BigInteger.ZERO);
        demand(n.k, n.l, n.x, n.v, n.a, n.b, n.c);
        return n;
    }

    private int fail(int error) {
        errors[-2000000002 - error]++;
        return error;
    }

    private int invalid() {
        return fail(TankFilter.INVALID);
    }

    private void save() {
        stack.add(s.copy());
        if (stack.size() > 4) {
            stack.remove(0);
        }
    }

    private static boolean in(long n, long low, long high) {
        return low <= n && n <= high;
    }

    private void note(int source, int value) {
        s.history.add(new int[] {source, value});
        if (s.history.size() > 24) {
            s.history.remove(0);
        }
    }

    int reset(int level, int flow, int levelVariance, int flowVariance) {
        if (!in(level, -40960000, 40960000) || !in(flow, -4096000, 4096000)
                || !in(levelVariance, 0, 40960000) || !in(flowVariance, 0, 40960000)) {
            return invalid();
        }
        save();
        int length = s.history.size();
        s.filter = new Filter();
        s.filter.x = big(level);
        s.filter.v = big(flow);
        s.filter.a = big(levelVariance);
        s.filter.c = big(flowVariance);
        s.history.clear();
        s.accepted = 0;
        s.rejected = 0;
        s.missed = 0;
        return length;
    }

    int setProcessNoise(int levelNoise, int flowNoise) {
        if (!in(levelNoise, 0, 4096000) || !in(flowNoise, 0, 4096000)) {
            return invalid();
        }
        save();
        int before = s.w;
        s.q = levelNoise;
        s.w = flowNoise;
        return before;
    }

    int setSensor(int sensor, int kind, int variance) {
        if (!in(sensor, 0, 3) || !in(kind, 0, 1) || !in(variance, 1, 40960000)) {
            return invalid();
        }
        save();
        int before = s.variances[sensor];
        s.kinds[sensor] = kind;
        s.variances[sensor] = variance;
        return before;
    }

    int setGate(int gate) {
        if (!in(gate, 0, 25)) {
            return invalid();
        }
        save();
        int before = s.gate;
        s.gate = gate;
        return before;
    }

    int predict(int inflow) {
        if (!in(inflow, -4096000, 4096000)) {
            return invalid();
        }
        try {
            Filter next = prediction(s.filter, inflow, s.q, s.w);
            save();
            s.filter = next;
            note(-1, inflow);
            return next.x.intValueExact();
        } catch (Overflow e) {
            return fail(TankFilter.OVERFLOW);
        }
    }

    int correct(int sensor, int reading) {
        if (!in(sensor, 0, 3) || !in(reading, -40960000, 40960000)) {
            return invalid();
        }
        int kind = s.kinds[sensor];
        if (gateRejects(s.filter, kind, s.variances[sensor], big(reading), s.gate)) {
            save();
            s.filter.y = big(reading).subtract(kind == 0 ? s.filter.x : s.filter.v);
            s.rejected++;
            note(sensor, reading);
            return 0;
        }
        try {
            Filter next = correction(s.filter, kind, s.variances[sensor], big(reading));
            save();
            s.filter = next;
            s.accepted++;
            note(sensor, reading);
            return 1;
        } catch (Overflow e) {
            return fail(TankFilter.OVERFLOW);
        }
    }

    int miss(int sensor) {
        if (!in(sensor, 0, 3)) {
            return invalid();
        }
        save();
        return ++s.missed;
    }

    private static int orNone(BigInteger n) {
        return n == null ? TankFilter.NONE : n.intValueExact();
    }

    int innovation() {
        return orNone(s.filter.y);
    }

    int levelGain() {
        return orNone(s.filter.k);
    }

    int flowGain() {
        return orNone(s.filter.l);
    }

    private Filter after(int steps) throws Overflow {
        Filter f = s.filter;
        for (int i = 0; i < steps; i++) {
            f = prediction(f, 0, s.q, s.w);
        }
        return f;
    }

    int forecast(int steps) {
        if (!in(steps, 0, 100)) {
            return invalid();
        }
        try {
            return after(steps).x.intValueExact();
        } catch (Overflow e) {
            return fail(TankFilter.OVERFLOW);
        }
    }

    int forecastVariance(int steps) {
        if (!in(steps, 0, 100)) {
            return invalid();
        }
        try {
            return after(steps).a.intValueExact();
        } catch (Overflow e) {
            return fail(TankFilter.OVERFLOW);
        }
    }

    int stepsTo(int target) {
        if (!in(target, -40960000, 40960000)) {
            return invalid();
        }
        int side = s.filter.x.compareTo(big(target));
        for (int n = 0; n <= 100; n++) {
            try {
                int then = after(n).x.compareTo(big(target));
                if (then == 0 || then == -side) {
                    return n;
                }
            } catch (Overflow e) {
                return TankFilter.NONE;
            }
        }
        return TankFilter.NONE;
    }

    /** The number of the cycle, k and l there; null if there is none. */
    private int[] steady(int sensor) {
        Filter f = s.filter;
        int kind = s.kinds[sensor];
        try {
            for (int n = 1; n <= 300; n++) {
                Filter p = prediction(f, 0, s.q, s.w);
                Filter next = correction(p, kind, s.variances[sensor], kind == 0 ? p.x : p.v);
                if (next.sameCovariances(f)) {
                    return new int[] {n, next.k.intValueExact(), next.l.intValueExact()};
                }
                f = next;
            }
        } catch (Overflow e) {
            return null;
        }
        return null;
    }

    int steadyCycles(int sensor) {
        if (!in(sensor, 0, 3)) {
            return invalid();
        }
        int[] found = steady(sensor);
        return found == null ? TankFilter.NONE : found[0];
    }

    int steadyGain(int sensor, int kind) {
        if (!in(sensor, 0, 3) || !in(kind, 0, 1)) {
            return invalid();
        }
        int[] found = steady(sensor);
        return found == null ? TankFilter.NONE : found[1 + kind];
    }

    private boolean noReading() {
        return s.history.stream().allMatch(entry -> entry[0] == -1);
    }

    private int replay(int flowNoise) throws Overflow {
        Filter f = s.filter;
        BigInteger sum = BigInteger.ZERO;
        for (int[] entry : s.history) {
            if (entry[0] == -1) {
                f = prediction(f, entry[1], s.q, flowNoise);
            } else {
                f = correction(f, s.kinds[entry[0]], s.variances[entry[0]], big(entry[1]));
                sum = sum.add(f.y.abs());
            }
        }
        demand(sum);
        return sum.intValueExact();
    }

    int replayError(int flowNoise) {
        if (!in(flowNoise, 0, 4096000)) {
            return invalid();
        }
        if (noReading()) {
            return fail(TankFilter.REJECTED);
        }
        try {
            return replay(flowNoise);
        } catch (Overflow e) {
            return fail(TankFilter.OVERFLOW);
        }
    }

    int bestFlowNoise() {
        if (noReading()) {
            return fail(TankFilter.REJECTED);
        }
        int best = TankFilter.NONE;
        long smallest = Long.MAX_VALUE;
        for (int i = -1; i <= 10; i++) {
            int candidate = i < 0 ? 0 : 1 << (2 * i);
            try {
                int error = replay(candidate);
                if (error < smallest) {
                    smallest = error;
                    best = candidate;
                }
            } catch (Overflow e) {
                continue;
            }
        }
        return best;
    }

    int undo() {
        if (stack.isEmpty()) {
            return fail(TankFilter.REJECTED);
        }
        s = stack.remove(stack.size() - 1);
        return stack.size();
    }

    int errorCount(int kind) {
        return in(kind, 0, 2) ? errors[kind] : invalid();
    }

    long digest() {
        List<Integer> values = new ArrayList<>(List.of(errors[0], errors[1], errors[2], stack.size()));
        for (BigInteger n : List.of(s.filter.x, s.filter.v, s.filter.a, s.filter.b, s.filter.c)) {
            values.add(n.intValueExact());
        }
        values.addAll(List.of(s.q, s.w, s.gate));
        for (int i = 0; i < 4; i++) {
            values.addAll(List.of(s.kinds[i], s.variances[i]));
        }
        values.addAll(List.of(innovation(), levelGain(), flowGain()));
        values.addAll(List.of(s.accepted, s.rejected, s.missed, s.history.size()));
        for (int[] entry : s.history) {
            values.addAll(List.of(entry[0], entry[1]));
        }
        long h = 12254;
        for (int value : values) {
            h = 31 * h + value;
        }
        return h;
    }
}
