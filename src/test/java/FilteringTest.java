/** Promises 6 to 8, and "Prediction" and "Correction" in the terms. */
public final class FilteringTest {
    public static void main(String[] args) {
        prediction();
        promise6();
        gate();
        correction();
        correctionFails();
        promise7();
        promise8();
        Check.end();
    }

    private static void prediction() {
        Check.sentence("x by x + v + u; a, b and c by the old b and c", FilteringTest::predictionFormulas);
        Check.sentence("v stays as it is", FilteringTest::predictionKeepsTheFlow);
        Check.sentence("a new a that is negative becomes 0", FilteringTest::predictedVarianceBecomesZero);
        Check.sentence("a new a that is just 0 stays", FilteringTest::predictedVarianceIsZero);
        Check.sentence("fails if the new x is too large", () -> predictedLevelLeaves(1));
        Check.sentence("fails if the new x is too small", () -> predictedLevelLeaves(-1));
        Check.sentence("fails if the new a is too large", FilteringTest::predictedVarianceLeaves);
    }

    private static void promise6() {
        Check.sentence("6: inflow -4096000 to 4096000", FilteringTest::predictInflow);
        Check.sentence("6: answers the new x", FilteringTest::predictAnswersTheLevel);
        Check.sentence("6: OVERFLOW changes nothing else", FilteringTest::predictOverflow);
        Check.sentence("6: undoable", FilteringTest::predictIsUndoable);
        Check.sentence("6: undoable, also if it changes nothing", FilteringTest::samePredictIsUndoable);
    }

    private static void gate() {
        Check.sentence("the gate is left out if g is 0", FilteringTest::noGate);
        Check.sentence("a level reading just in the gate is accepted", FilteringTest::levelGate);
        Check.sentence("a flow reading just in the gate is accepted", FilteringTest::flowGate);
        Check.sentence("the gate of a large variance", FilteringTest::gateOfALargeVariance);
        Check.sentence("the gate for the largest innovations", FilteringTest::gateOfTheLargestInnovations);
        Check.sentence("the gate for innovations whose square passes an int", FilteringTest::gateOfLargeSquares);
        Check.sentence("a rejected reading keeps the state of the filter", FilteringTest::rejectedReadingKeepsTheState);
    }

    private static void correction() {
        Check.sentence("a level reading", FilteringTest::levelReading);
        Check.sentence("a flow reading", FilteringTest::flowReading);
        Check.sentence("s is positive: a = 0 and r = 1", FilteringTest::smallestVarianceOfALevelReading);
        Check.sentence("s is positive: c = 0 and r = 1", FilteringTest::smallestVarianceOfAFlowReading);
        Check.sentence("an innovation of 0", FilteringTest::noInnovation);
        Check.sentence("a new a that is negative becomes 0", FilteringTest::correctedLevelVarianceBecomesZero);
        Check.sentence("a new a far below the limit becomes 0", FilteringTest::farNegativeLevelVariance);
        Check.sentence("a new c that is negative becomes 0", FilteringTest::correctedFlowVarianceBecomesZero);
        Check.sentence("a new c far below the limit becomes 0", FilteringTest::farNegativeFlowVariance);
    }

    private static void correctionFails() {
        Check.sentence("fails if the gain k is not in the limit", FilteringTest::levelGainLeaves);
        Check.sentence("fails if the gain l is not in the limit", FilteringTest::flowGainLeaves);
        Check.sentence("fails if the new x is too large", () -> correctedLevelLeaves(1));
        Check.sentence("fails if the new x is too small", () -> correctedLevelLeaves(-1));
        Check.sentence("fails if the new v is too large", () -> correctedFlowLeaves(1));
        Check.sentence("fails if the new v is too small", () -> correctedFlowLeaves(-1));
        Check.sentence("a reading that the gate rejects does not fail", FilteringTest::rejectedReadingDoesNotFail);
    }

    private static void promise7() {
        Check.sentence("7: sensor 0 to 3", FilteringTest::correctSensor);
        Check.sentence("7: reading -40960000 to 40960000", FilteringTest::correctReading);
        Check.sentence("7: answers 1 or 0", FilteringTest::correctAnswers);
        Check.sentence("7: OVERFLOW changes nothing else", FilteringTest::correctOverflow);
        Check.sentence("7: undoable if accepted", FilteringTest::acceptedReadingIsUndoable);
        Check.sentence("7: undoable if rejected", FilteringTest::rejectedReadingIsUndoable);
    }

    private static void promise8() {
        Check.sentence("8: only the counter of missed readings changes", FilteringTest::missChangesItsCounter);
        Check.sentence("8: sensor 0 to 3", FilteringTest::missSensor);
        Check.sentence("8: answers the new number", FilteringTest::missAnswers);
        Check.sentence("8: undoable", FilteringTest::missIsUndoable);
    }

    private static void predictionFormulas() {
        TankFilter t = new TankFilter();
        t.setProcessNoise(5, 7);
        t.reset(100, 20, 10, 3);
        t.predict(-1);
        Check.state("predict(-1)", t, 119, 20, 18, 3, 10);
        t.predict(0);
        Check.state("predict(0)", t, 139, 20, 39, 13, 17);
        t.predict(1);
        Check.state("predict(1)", t, 160, 20, 39 + 26 + 17 + 5, 30, 24);
    }

    private static void predictionKeepsTheFlow() {
        TankFilter t = Filters.quiet(0, -3, 5, 5);
        t.predict(4096000);
        Check.due("flow()", t.flow(), -3);
        t.predict(-4096000);
        Check.due("flow()", t.flow(), -3);
    }

    private static void predictedVarianceBecomesZero() {
        TankFilter t = Filters.withNegativeCovariance();
        // a + 2 * b + c + q is 100 - 128.
        Check.due("predict(0)", t.predict(0), 0);
        Check.state("predict(0)", t, 0, 0, 0, -64, 64);
    }

    private static void predictedVarianceIsZero() {
        TankFilter t = Filters.withNegativeCovariance();
        t.setProcessNoise(28, 64);
        t.predict(0);
        Check.state("predict(0)", t, 0, 0, 0, -64, 64);
        TankFilter u = Filters.withNegativeCovariance();
        u.setProcessNoise(29, 64);
        u.predict(0);
        Check.state("predict(0)", u, 0, 0, 1, -64, 64);
    }

    private static void predictedLevelLeaves(int sign) {
        TankFilter t = Filters.atTheLimit(sign);
        Check.overflows("predict() just out of the limit", t, () -> t.predict(sign));
        Check.overflows("predict() far out of the limit", t, () -> t.predict(sign * 4096000));
        Check.due("predict(0)", t.predict(0), sign * Filters.LIMIT);
        Check.due("predict() back", t.predict(-sign), sign * (Filters.LIMIT - 1));
        Check.due("predict() to the limit", t.predict(sign), sign * Filters.LIMIT);
    }

    private static void predictedVarianceLeaves() {
        TankFilter t = Filters.ninetyNineNoisesToTheLimit();
        for (int i = 0; i < 99; i++) {
            t.predict(0);
        }
        Check.due("levelVariance()", t.levelVariance(), Filters.LIMIT);
        t.setProcessNoise(1, 0);
        Check.overflows("predict(0) just out of the limit", t, () -> t.predict(0));
        t.setProcessNoise(0, 4096000);
        Check.due("predict(5) at the limit", t.predict(5), 99 + 1 + 5);
        Check.overflows("predict(0) far out of the limit", t, () -> t.predict(0));
    }

    private static void predictInflow() {
        TankFilter t = new TankFilter();
        Check.range("predict(n)", t, -4096000, 4096000, t::predict);
        t.reset(0, 0, 0, 0);
        Check.due("predict(4096000)", t.predict(4096000), 4096000);
        t.reset(0, 0, 0, 0);
        Check.due("predict(-4096000)", t.predict(-4096000), -4096000);
    }

    private static void predictAnswersTheLevel() {
        TankFilter t = Filters.quiet(100, 20, 0, 0);
        Check.due("predict(3)", t.predict(3), 123);
        Check.due("predict(-200)", t.predict(-200), -57);
        Check.due("level()", t.level(), -57);
    }

    private static void predictOverflow() {
        TankFilter t = Filters.quiet(0, 1, 40960000, 40960000);
        for (int i = 1; i <= 4; i++) {
            t.predict(0);
        }
        Check.overflows("predict(0)", t, () -> t.predict(0));
        Check.state("predict(0)", t, 4, 1, 17 * 40960000, 4 * 40960000, 40960000);
        Check.due("historyLength()", t.historyLength(), 4);
        Check.due("undo()", t.undo(), 3);
        Check.due("level()", t.level(), 3);
    }

    private static void predictIsUndoable() {
        TankFilter t = new TankFilter();
        Check.undoable("predict(5)", t, 5, () -> t.predict(5));
    }

    private static void samePredictIsUndoable() {
        TankFilter t = Filters.quiet(0, 0, 0, 0);
        for (int i = 0; i < 24; i++) {
            t.predict(0);
        }
        long before = t.digest();
        for (int i = 0; i < 4; i++) {
            t.predict(0);
            Check.due("digest()", t.digest(), before);
        }
        for (int left = 3; left >= 0; left--) {
            Check.due("undo()", t.undo(), left);
            Check.due("historyLength()", t.historyLength(), 24);
        }
    }

    private static void noGate() {
        TankFilter t = Filters.quiet(-40960000, 0, 0, 0);
        t.setSensor(0, TankFilter.LEVEL, 1);
        t.setGate(0);
        Check.due("correct(0, 40960000)", t.correct(0, 40960000), 1);
        t.setGate(25);
        Check.due("correct(0, 40960000)", t.correct(0, 40960000), 0);
    }

    private static void levelGate() {
        TankFilter t = new TankFilter();
        t.reset(100, 5000, 4096, 0);
        t.setGate(2);
        // s is 8192, so that y * y = 8192 * 8192 is just not above the gate.
        Check.due("correct(0, 100 + 8193)", t.correct(0, 100 + 8193), 0);
        Check.due("correct(0, 100 - 8193)", t.correct(0, 100 - 8193), 0);
        Check.due("correct(0, 100 + 8192)", t.correct(0, 100 + 8192), 1);
        t.reset(100, 5000, 4096, 0);
        Check.due("correct(0, 100 - 8192)", t.correct(0, 100 - 8192), 1);
    }

    private static void flowGate() {
        TankFilter t = new TankFilter();
        t.reset(5000, 100, 0, 4096);
        t.setSensor(3, TankFilter.FLOW, 4096);
        t.setGate(2);
        Check.due("correct(3, 100 + 8193)", t.correct(3, 100 + 8193), 0);
        Check.due("correct(3, 100 - 8193)", t.correct(3, 100 - 8193), 0);
        Check.due("correct(3, 100 + 8192)", t.correct(3, 100 + 8192), 1);
        t.reset(5000, 100, 0, 4096);
        Check.due("correct(3, 100 - 8192)", t.correct(3, 100 - 8192), 1);
    }

    private static void gateOfALargeVariance() {
        TankFilter t = Filters.quiet(0, 0, 40960000, 0);
        t.setSensor(0, TankFilter.LEVEL, 40960000);
        t.setGate(25);
        // The square of 2896309 is just in 25 * 81920000 * 4096.
        Check.due("correct(0, 2896310)", t.correct(0, 2896310), 0);
        Check.due("correct(0, -2896310)", t.correct(0, -2896310), 0);
        Check.due("correct(0, 2896309)", t.correct(0, 2896309), 1);
    }

    private static void gateOfTheLargestInnovations() {
        TankFilter t = Filters.atTheLimit(-1);
        t.setSensor(0, TankFilter.LEVEL, 40960000);
        t.setGate(25);
        Check.due("correct(0, 40960000)", t.correct(0, 40960000), 0);
        Check.due("innovation()", t.innovation(), Filters.LIMIT + 40960000);
        TankFilter u = Filters.atTheLimit(1);
        Check.due("correct(0, -40960000)", u.correct(0, -40960000), 0);
        Check.due("innovation()", u.innovation(), -Filters.LIMIT - 40960000);
    }

    private static void gateOfLargeSquares() {
        TankFilter t = new TankFilter();
        // The squares are 2 ^ 31, about, 2 ^ 32 and 2 ^ 34; the gate ends at 301989888.
        for (int innovation : new int[] {46341, 65536, 131072, -46341, -65536, -131072}) {
            Check.due("correct(0, " + innovation + ")", t.correct(0, innovation), 0);
        }
    }

    private static void rejectedReadingKeepsTheState() {
        TankFilter t = new TankFilter();
        t.predict(3);
        Check.due("correct(0, 40960000)", t.correct(0, 40960000), 0);
        Check.state("correct(0, 40960000)", t, 3, 0, 8192, 4096, 4160);
        t.setSensor(1, TankFilter.FLOW, 1);
        Check.due("correct(1, -40960000)", t.correct(1, -40960000), 0);
        Check.state("correct(1, -40960000)", t, 3, 0, 8192, 4096, 4160);
        Check.due("rejected()", t.rejected(), 2);
        Check.due("accepted()", t.accepted(), 0);
    }

    private static void levelReading() {
        TankFilter t = new TankFilter();
        t.predict(0);
        Check.due("correct(0, 8192)", t.correct(0, 8192), 1);
        Check.due("levelGain()", t.levelGain(), 2731);
        Check.due("flowGain()", t.flowGain(), 1365);
        Check.due("innovation()", t.innovation(), 8192);
        Check.state("correct(0, 8192)", t, 5462, 2730, 2730, 1365, 2795);
    }

    private static void flowReading() {
        TankFilter t = new TankFilter();
        t.setSensor(2, TankFilter.FLOW, 4096);
        t.predict(300);
        Check.due("correct(2, -1000)", t.correct(2, -1000), 1);
        Check.due("innovation()", t.innovation(), -1000);
        Check.due("levelGain()", t.levelGain(), 2032);
        Check.due("flowGain()", t.flowGain(), 2064);
        Check.state("correct(2, -1000)", t, 300 - 496, -504, 6160, 2032, 2064);
    }

    private static void smallestVarianceOfALevelReading() {
        TankFilter t = Filters.quiet(7, 8, 0, 0);
        t.setSensor(0, TankFilter.LEVEL, 1);
        t.setGate(1);
        Check.due("correct(0, 7 + 65)", t.correct(0, 7 + 65), 0);
        Check.due("correct(0, 7 + 64)", t.correct(0, 7 + 64), 1);
        Check.due("levelGain()", t.levelGain(), 0);
        Check.due("flowGain()", t.flowGain(), 0);
        Check.state("correct(0, 7 + 64)", t, 7, 8, 0, 0, 0);
    }

    private static void smallestVarianceOfAFlowReading() {
        TankFilter t = Filters.quiet(7, 8, 0, 0);
        t.setSensor(1, TankFilter.FLOW, 1);
        t.setGate(1);
        Check.due("correct(1, 8 + 65)", t.correct(1, 8 + 65), 0);
        Check.due("correct(1, 8 + 64)", t.correct(1, 8 + 64), 1);
        Check.due("levelGain()", t.levelGain(), 0);
        Check.due("flowGain()", t.flowGain(), 0);
        Check.state("correct(1, 8 + 64)", t, 7, 8, 0, 0, 0);
    }

    private static void noInnovation() {
        TankFilter t = new TankFilter();
        t.reset(55, 66, 4096, 4096);
        t.setGate(1);
        Check.due("correct(0, 55)", t.correct(0, 55), 1);
        Check.due("innovation()", t.innovation(), 0);
        Check.state("correct(0, 55)", t, 55, 66, 2048, 0, 4096);
    }

    private static void correctedLevelVarianceBecomesZero() {
        TankFilter t = new TankFilter();
        t.setProcessNoise(0, 4096000);
        t.setSensor(1, TankFilter.FLOW, 1);
        t.reset(0, 0, 0, 100);
        t.predict(0);
        t.correct(1, 0);
        Check.state("correct(1, 0)", t, 0, 0, 100, 100, 0);
        t.setSensor(1, TankFilter.FLOW, 2);
        Check.due("correct(1, 0)", t.correct(1, 0), 1);
        Check.due("levelGain()", t.levelGain(), 204800);
        Check.due("flowGain()", t.flowGain(), 0);
        Check.state("correct(1, 0) again", t, 0, 0, 0, 100, 0);
    }

    private static void farNegativeLevelVariance() {
        TankFilter t = Filters.withATooLargeGain();
        t.setSensor(1, TankFilter.FLOW, 2);
        // a - mul(k, b) is about -2.98 * 10 ^ 10.
        Check.due("correct(1, 0)", t.correct(1, 0), 1);
        Check.due("levelGain()", t.levelGain(), 500000768);
        Check.state("correct(1, 0)", t, 0, 0, 0, 244141, 0);
    }

    private static void correctedFlowVarianceBecomesZero() {
        TankFilter t = new TankFilter();
        t.setProcessNoise(0, 4096000);
        t.setSensor(1, TankFilter.FLOW, 4096);
        t.reset(0, 0, 40960000, 40960000);
        t.predict(0);
        t.correct(1, 0);
        Check.state("correct(1, 0)", t, 0, 0, 44690000, 7000, 0);
        Check.due("correct(0, 0)", t.correct(0, 0), 1);
        Check.due("levelGain()", t.levelGain(), 4096);
        Check.due("flowGain()", t.flowGain(), 1);
        Check.state("correct(0, 0)", t, 0, 0, 0, 0, 0);
    }

    /** a is 0, so that a level reading of the variance 1 gains of b by 1. */
    private static TankFilter withoutLevelVariance(TankFilter t) {
        t.setSensor(1, TankFilter.FLOW, 2);
        t.correct(1, 0);
        t.setSensor(0, TankFilter.LEVEL, 1);
        Check.due("levelVariance()", t.levelVariance(), 0);
        return t;
    }

    private static void farNegativeFlowVariance() {
        TankFilter t = withoutLevelVariance(Filters.withTheLargestGain());
        // c - mul(l, b) is about -5.96 * 10 ^ 10.
        Check.due("correct(0, 0)", t.correct(0, 0), 1);
        Check.state("correct(0, 0)", t, 0, 0, 0, 244140, 0);
    }

    private static void levelGainLeaves() {
        TankFilter t = Filters.withTheLargestGain();
        t.setSensor(1, TankFilter.FLOW, 1);
        Check.due("correct(1, 0)", t.correct(1, 0), 1);
        Check.due("levelGain()", t.levelGain(), 999997440);
        Check.due("flowGain()", t.flowGain(), 0);
        TankFilter u = Filters.withATooLargeGain();
        u.setSensor(1, TankFilter.FLOW, 1);
        Check.overflows("correct(1, 0)", u, () -> u.correct(1, 0));
    }

    private static void flowGainLeaves() {
        TankFilter t = withoutLevelVariance(Filters.withTheLargestGain());
        Check.due("correct(0, 0)", t.correct(0, 0), 1);
        Check.due("levelGain()", t.levelGain(), 0);
        Check.due("flowGain()", t.flowGain(), 999997440);
        TankFilter u = withoutLevelVariance(Filters.withATooLargeGain());
        Check.overflows("correct(0, 0)", u, () -> u.correct(0, 0));
    }

    private static void correctedLevelLeaves(int sign) {
        // The gain k is 122850, and l is 4095.
        int moved = (int) Math.floorDiv(122850L * sign * 33000000 + 2048, 4096L);
        int room = sign * Filters.LIMIT - moved;
        TankFilter t = Filters.swinging(room);
        Check.due("correct() to the limit", t.correct(1, sign * 33000000), 1);
        Check.due("levelGain()", t.levelGain(), 122850);
        Check.due("level()", t.level(), sign * Filters.LIMIT);
        TankFilter u = Filters.swinging(room + sign);
        Check.overflows("correct() just out of the limit", u, () -> u.correct(1, sign * 33000000));
        Check.overflows("correct() far out of the limit", u, () -> u.correct(1, sign * 40960000));
    }

    private static void correctedFlowLeaves(int sign) {
        TankFilter t = Filters.quiet(-sign * 40960000, -sign * 4096000, 0, 0);
        t.setSensor(0, TankFilter.LEVEL, 1);
        t.setGate(0);
        for (int i = 0; i < 114; i++) {
            t.predict(-sign * 4096000);
        }
        t.setProcessNoise(0, 4096000);
        t.predict(0);
        t.setProcessNoise(0, 0);
        t.predict(0);
        Check.state("predict(0)", t, -sign * 983040000, -sign * 4096000, 4096000, 4096000, 4096000);
        // Both gains are 4096: the new level is the reading, and the flow grows by the innovation.
        Check.overflows("correct() far out of the limit", t, () -> t.correct(0, sign * 40960000));
        Check.overflows("correct() just out of the limit", t, () -> t.correct(0, sign * 21056001));
        Check.due("correct() to the limit", t.correct(0, sign * 21056000), 1);
        Check.state("correct() to the limit", t, sign * 21056000, sign * Filters.LIMIT, 0, 0, 0);
    }

    private static void rejectedReadingDoesNotFail() {
        TankFilter t = Filters.swinging(0);
        Check.overflows("correct(1, 40960000)", t, () -> t.correct(1, 40960000));
        t.setGate(25);
        Check.due("correct(1, 40960000)", t.correct(1, 40960000), 0);
        Check.due("errorCount(2)", t.errorCount(2), 1);
    }

    private static void correctSensor() {
        TankFilter t = new TankFilter();
        Check.range("correct(n, 0)", t, 0, 3, n -> t.correct(n, 0));
    }

    private static void correctReading() {
        TankFilter t = new TankFilter();
        t.setGate(0);
        Check.range("correct(0, n)", t, -40960000, 40960000, n -> t.correct(0, n));
        t.reset(0, 0, 0, 0);
        t.correct(0, 40960000);
        Check.due("innovation() of the largest", t.innovation(), 40960000);
        t.correct(0, -40960000);
        Check.due("innovation() of the smallest", t.innovation(), -40960000);
    }

    private static void correctAnswers() {
        TankFilter t = new TankFilter();
        Check.due("correct(3, 40960000)", t.correct(3, 40960000), 0);
        Check.due("correct(3, 5)", t.correct(3, 5), 1);
        Check.due("correct(3, -40960000)", t.correct(3, -40960000), 0);
    }

    private static void correctOverflow() {
        TankFilter t = Filters.swinging(5);
        t.setGate(9);
        t.correct(1, 40960000);
        t.setGate(0);
        Check.overflows("correct(1, -40960000)", t, () -> t.correct(1, -40960000));
        Check.due("innovation()", t.innovation(), 40960000);
        Check.due("levelGain()", t.levelGain(), TankFilter.NONE);
        Check.due("accepted()", t.accepted(), 0);
        Check.due("rejected()", t.rejected(), 1);
        Check.state("correct(1, -40960000)", t, 5, 0, 900 * 4096, 30 * 4096, 4096);
    }

    private static void acceptedReadingIsUndoable() {
        TankFilter t = new TankFilter();
        Check.undoable("correct(0, 5)", t, 1, () -> t.correct(0, 5));
        Check.undoable("correct(0, 0)", t, 1, () -> t.correct(0, 0));
    }

    private static void rejectedReadingIsUndoable() {
        TankFilter t = new TankFilter();
        Check.undoable("correct(0, 40960000)", t, 0, () -> t.correct(0, 40960000));
    }

    private static void missChangesItsCounter() {
        TankFilter t = new TankFilter();
        t.predict(3);
        t.correct(0, 5);
        t.correct(0, 40960000);
        t.miss(0);
        Check.due("missed()", t.missed(), 1);
        Check.state("miss(0)", t, 4, 1, 2730, 1365, 2795);
        Check.due("accepted()", t.accepted(), 1);
        Check.due("rejected()", t.rejected(), 1);
        Check.due("innovation()", t.innovation(), 40960000 - 4);
        Check.due("levelGain()", t.levelGain(), 2731);
        Check.due("historyLength()", t.historyLength(), 3);
    }

    private static void missSensor() {
        TankFilter t = new TankFilter();
        Check.range("miss(n)", t, 0, 3, t::miss);
    }

    private static void missAnswers() {
        TankFilter t = new TankFilter();
        Check.due("miss(0)", t.miss(0), 1);
        Check.due("miss(3)", t.miss(3), 2);
        Check.due("miss(3)", t.miss(3), 3);
    }

    private static void missIsUndoable() {
        TankFilter t = new TankFilter();
        Check.undoable("miss(0)", t, 1, () -> t.miss(0));
    }
}
