/** Promises 9 to 20: what the state answers. */
public final class StateTest {
    public static void main(String[] args) {
        promises9To13State();
        promise14Innovation();
        promises15And16Gains();
        promises17To19Counters();
        promise20HistoryLength();
        questionsChangeNothing();
        Check.end();
    }

    private static void promises9To13State() {
        TankFilter t = new TankFilter();
        t.reset(11, 12, 13, 14);
        Check.state("reset(11, 12, 13, 14)", t, 11, 12, 13, 0, 14);
        t.predict(0);
        Check.state("predict(0)", t, 23, 12, 27, 14, 78);
        t.reset(-11, -12, 0, 0);
        Check.state("reset(-11, -12, 0, 0)", t, -11, -12, 0, 0, 0);
    }

    private static void promise14Innovation() {
        TankFilter t = new TankFilter();
        t.reset(100, 7, 4096, 4096);
        t.setSensor(2, TankFilter.FLOW, 4096);
        t.predict(-7);
        Check.due("innovation() without a reading", t.innovation(), TankFilter.NONE);
        t.miss(0);
        Check.due("innovation() after miss(0)", t.innovation(), TankFilter.NONE);
        t.correct(0, 40960000);
        Check.due("innovation() of a rejected reading", t.innovation(), 40959900);
        t.correct(0, 90);
        Check.due("innovation() of an accepted reading", t.innovation(), -10);
        int flow = t.flow();
        t.correct(2, 50);
        Check.due("innovation() of a flow sensor", t.innovation(), 50 - flow);
        t.predict(0);
        t.miss(1);
        t.setGate(1);
        Check.due("innovation() stays", t.innovation(), 50 - flow);
        t.reset(0, 0, 0, 0);
        Check.due("innovation() after reset()", t.innovation(), TankFilter.NONE);
    }

    private static void promises15And16Gains() {
        TankFilter t = new TankFilter();
        t.predict(0);
        Check.due("levelGain() without a reading", t.levelGain(), TankFilter.NONE);
        Check.due("flowGain() without a reading", t.flowGain(), TankFilter.NONE);
        t.correct(0, 40960000);
        Check.due("levelGain() after a rejected reading", t.levelGain(), TankFilter.NONE);
        Check.due("flowGain() after a rejected reading", t.flowGain(), TankFilter.NONE);
        t.correct(0, 8192);
        Check.due("levelGain()", t.levelGain(), 2731);
        Check.due("flowGain()", t.flowGain(), 1365);
        t.correct(0, -40960000);
        t.predict(0);
        t.miss(0);
        Check.due("levelGain() stays", t.levelGain(), 2731);
        Check.due("flowGain() stays", t.flowGain(), 1365);
        t.reset(0, 0, 0, 0);
        Check.due("levelGain() after reset()", t.levelGain(), TankFilter.NONE);
        Check.due("flowGain() after reset()", t.flowGain(), TankFilter.NONE);
        t.correct(0, 5);
        Check.due("levelGain() that is 0", t.levelGain(), 0);
        Check.due("flowGain() that is 0", t.flowGain(), 0);
    }

    private static void promises17To19Counters() {
        TankFilter t = new TankFilter();
        for (int i = 0; i < 30; i++) {
            t.correct(0, 0);
        }
        for (int i = 0; i < 29; i++) {
            t.correct(0, 40960000);
        }
        for (int i = 0; i < 28; i++) {
            t.miss(0);
        }
        Check.due("accepted()", t.accepted(), 30);
        Check.due("rejected()", t.rejected(), 29);
        Check.due("missed()", t.missed(), 28);
        t.correct(0, 40960001);
        t.miss(4);
        Check.due("accepted() after a failure", t.accepted(), 30);
        Check.due("rejected() after a failure", t.rejected(), 29);
        Check.due("missed() after a failure", t.missed(), 28);
        t.reset(0, 0, 0, 0);
        Check.due("accepted() after reset()", t.accepted(), 0);
        Check.due("rejected() after reset()", t.rejected(), 0);
        Check.due("missed() after reset()", t.missed(), 0);
    }

    private static void promise20HistoryLength() {
        TankFilter t = new TankFilter();
        Check.due("historyLength()", t.historyLength(), 0);
        t.predict(0);
        t.correct(0, 0);
        t.correct(0, 40960000);
        Check.due("historyLength()", t.historyLength(), 3);
        t.miss(0);
        t.setGate(0);
        t.forecast(1);
        t.predict(4096001);
        Check.due("historyLength()", t.historyLength(), 3);
        for (int i = 4; i <= 24; i++) {
            t.predict(i);
            Check.due("historyLength()", t.historyLength(), i);
        }
        t.predict(0);
        t.correct(0, 0);
        Check.due("historyLength() stays", t.historyLength(), 24);
        t.undo();
        Check.due("historyLength() after undo()", t.historyLength(), 24);
        t.reset(0, 0, 0, 0);
        Check.due("historyLength() after reset()", t.historyLength(), 0);
    }

    private static void questionsChangeNothing() {
        TankFilter t = new TankFilter();
        t.predict(2);
        t.correct(0, 4);
        Check.asks("level()", t, 3, t::level);
        Check.asks("flow()", t, 1, t::flow);
        Check.asks("levelVariance()", t, 2730, t::levelVariance);
        Check.asks("covariance()", t, 1365, t::covariance);
        Check.asks("flowVariance()", t, 2795, t::flowVariance);
        Check.asks("innovation()", t, 2, t::innovation);
        Check.asks("levelGain()", t, 2731, t::levelGain);
        Check.asks("flowGain()", t, 1365, t::flowGain);
        Check.asks("accepted()", t, 1, t::accepted);
        Check.asks("rejected()", t, 0, t::rejected);
        Check.asks("missed()", t, 0, t::missed);
        Check.asks("historyLength()", t, 2, t::historyLength);
    }
}
