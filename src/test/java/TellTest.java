/** Promises 12 to 20: phase, word, outcome, entry, pair, doubles, unmet, held, count. */
public final class TellTest {
    private static final int NONE = ChoiceBench.NONE;

    public static void main(String[] args) {
        phase();
        word();
        outcomeOfBoth();
        outcomeIsTheLatest();
        entry();
        pairOfASender();
        pairOfAReceiver();
        manyPairs();
        doubles();
        unmetNeedsWaiting();
        unmetNeedsMatches();
        held();
        count();
        Due.is("NONE", ChoiceBench.NONE, -1);
        Due.end();
    }

    private static void phase() {
        ChoiceBench x = new ChoiceBench(16);
        Due.is("phase(-1)", x.phase(-1), NONE);
        Due.is("phase(15)", x.phase(15), 0);
        Due.is("phase(16)", x.phase(16), NONE);
        Due.is("phase(MIN)", x.phase(Integer.MIN_VALUE), NONE);
        Due.is("phase(MAX)", x.phase(Integer.MAX_VALUE), NONE);
        x.spawn(15);
        Due.is("IDLE", x.phase(15), 1);
        x.guard(15, Due.RECEIVE, 0, 0, true);
        x.offer(15);
        Due.is("PUBLISH", x.phase(15), 2);
        x.step(15);
        Due.is("LOOK", x.phase(15), 3);
        Due.steps(x, 15, 2);
        Due.is("END", x.phase(15), 9);
        x.step(15);
        Due.is("ASLEEP", x.phase(15), 10);
        Due.single(x, 3, Due.SEND, 0, 9);
        Due.steps(x, 3, 2);
        Due.is("CLAIM", x.phase(3), 4);
        x.step(3);
        Due.is("SECOND", x.phase(3), 5);
        Due.single(x, 4, Due.SEND, 0, 8);
        Due.steps(x, 4, 3);
        Due.is("another SECOND", x.phase(4), 5);
        x.step(3);
        Due.is("TELL", x.phase(3), 7);
        x.step(4);
        Due.is("BACK", x.phase(4), 6);
        x.step(3);
        Due.is("OWN", x.phase(3), 8);
        x.step(3);
        Due.is("WITHDRAW", x.phase(3), 11);
        x.step(3);
        Due.is("DONE", x.phase(3), 12);
    }

    private static void word() {
        ChoiceBench x = new ChoiceBench(3);
        Due.is("word(-1, 0)", x.word(-1, 0), NONE);
        Due.is("word(3, 0)", x.word(3, 0), NONE);
        Due.is("word(3, 1)", x.word(3, 1), NONE);
        Due.is("word(0, -1)", x.word(0, -1), NONE);
        Due.is("word(0, 3)", x.word(0, 3), NONE);
        Due.is("word(0, MIN)", x.word(0, Integer.MIN_VALUE), NONE);
        x.spawn(0);
        Due.is("IDLE is FREE", x.word(0, 0), 0);
        x.quit(0);
        Due.single(x, 0, Due.SEND, 0, 1);
        words(x, 0, 1, 1, NONE);
        x.step(0);
        Due.single(x, 2, Due.RECEIVE, 0, 1);
        Due.until(x, 2, Due.SECOND);
        words(x, 0, 2, 1, 2);
        words(x, 2, 1, 1, NONE);
        x.step(2);
        words(x, 2, 2, 1, 2);
        x.step(2);
        words(x, 0, 3, 1, NONE);
        words(x, 2, 2, 1, 2);
        x.step(2);
        words(x, 2, 3, 1, NONE);
        x.step(2);
        words(x, 2, 3, 1, NONE);
        x.finish(2);
        words(x, 2, 0, 1, NONE);
        x.offer(2);
        words(x, 2, 1, 2, NONE);
        x.cancel(2);
        words(x, 2, 4, 2, NONE);
    }

    private static void words(ChoiceBench x, int p, int kind, int version, int claimer) {
        Due.is("word(" + p + ", 0)", x.word(p, 0), kind);
        Due.is("word(" + p + ", 1)", x.word(p, 1), version);
        Due.is("word(" + p + ", 2)", x.word(p, 2), claimer);
    }

    private static void outcomes(ChoiceBench x, int p, int partner, int channel, int got, int version) {
        Due.is("outcome(" + p + ", 0)", x.outcome(p, 0), partner);
        Due.is("outcome(" + p + ", 1)", x.outcome(p, 1), channel);
        Due.is("outcome(" + p + ", 2)", x.outcome(p, 2), got);
        Due.is("outcome(" + p + ", 3)", x.outcome(p, 3), version);
        Due.is("outcome(" + p + ", 4)", x.outcome(p, 4), NONE);
        Due.is("outcome(" + p + ", -1)", x.outcome(p, -1), NONE);
    }

    /** Lets p, then q, OFFER on a CHANNEL and q find p; both finish. */
    private static void meet(ChoiceBench x, int p, int kindOfP, int q, int channel, int[] values) {
        Due.single(x, p, kindOfP, channel, values[0]);
        Due.until(x, p, Due.ASLEEP);
        Due.single(x, q, 1 - kindOfP, channel, values[1]);
        Due.until(x, q, Due.DONE);
        Due.until(x, p, Due.DONE);
        Due.yes("finish(p)", x.finish(p));
        Due.yes("finish(q)", x.finish(q));
    }

    private static void outcomeOfBoth() {
        ChoiceBench x = new ChoiceBench(3);
        Due.is("outcome(-1, 0)", x.outcome(-1, 0), NONE);
        Due.is("outcome(3, 0)", x.outcome(3, 0), NONE);
        outcomes(x, 0, NONE, NONE, NONE, NONE);
        meet(x, 0, Due.SEND, 2, 4, new int[] {31, 32});
        outcomes(x, 0, 2, 4, 0, 1);
        outcomes(x, 2, 0, 4, 31, 1);
        outcomes(x, 1, NONE, NONE, NONE, NONE);
        meet(x, 0, Due.RECEIVE, 1, 5, new int[] {41, 42});
        outcomes(x, 0, 1, 5, 42, 2);
        outcomes(x, 1, 0, 5, 0, 1);
        outcomes(x, 2, 0, 4, 31, 1);
        meet(x, 2, Due.SEND, 0, 7, new int[] {-1, 0});
        outcomes(x, 0, 2, 7, -1, 3);
    }

    private static void outcomeIsTheLatest() {
        ChoiceBench x = new ChoiceBench(2);
        meet(x, 0, Due.SEND, 1, 4, new int[] {31, 32});
        x.offer(0);
        x.cancel(0);
        x.finish(0);
        outcomes(x, 0, 1, 4, 0, 1);
        x.quit(0);
        outcomes(x, 0, 1, 4, 0, 1);
        x.spawn(0);
        x.offer(0);
        Due.is("VERSION", x.word(0, 1), 3);
        outcomes(x, 0, 1, 4, 0, 1);
        outcomes(x, 1, 0, 4, 31, 1);
    }

    private static void entries(ChoiceBench x, int channel, int i, int[] parts) {
        for (int what = 0; what < parts.length; what++) {
            Due.is("entry(" + channel + ", " + i + ", " + what + ")", x.entry(channel, i, what), parts[what]);
        }
        Due.is("entry what -1", x.entry(channel, i, -1), NONE);
        Due.is("entry what 5", x.entry(channel, i, 5), NONE);
    }

    private static void entry() {
        ChoiceBench x = new ChoiceBench(3);
        int[] none = {NONE, NONE, NONE, NONE, NONE};
        entries(x, 0, 0, none);
        x.spawn(1);
        x.offer(1);
        x.cancel(1);
        x.finish(1);
        Due.single(x, 1, Due.RECEIVE, 7, 71);
        x.step(1);
        Due.single(x, 2, Due.SEND, 6, 62);
        x.step(2);
        Due.single(x, 0, Due.SEND, 7, 70);
        x.step(0);
        entries(x, 7, 0, new int[] {1, 1, 71, 1, 2});
        entries(x, 7, 1, new int[] {0, 0, 70, 3, 1});
        entries(x, 6, 0, new int[] {2, 0, 62, 2, 1});
        entries(x, 7, 2, none);
        entries(x, 6, 1, none);
        entries(x, 7, -1, none);
        entries(x, 7, Integer.MAX_VALUE, none);
        entries(x, 7, Integer.MIN_VALUE, none);
        entries(x, -1, 0, none);
        entries(x, 8, 0, none);
        entries(x, Integer.MAX_VALUE, 0, none);
        x.cancel(1);
        x.step(1);
        entries(x, 7, 0, new int[] {0, 0, 70, 3, 1});
        entries(x, 7, 1, none);
        x.finish(1);
        Due.single(x, 1, Due.SEND, 7, 72);
        x.step(1);
        entries(x, 7, 1, new int[] {1, 0, 72, 4, 3});
    }

    private static void pairs(ChoiceBench x, int i, int[] parts) {
        for (int what = 0; what < parts.length; what++) {
            Due.is("pair(" + i + ", " + what + ")", x.pair(i, what), parts[what]);
        }
        Due.is("pair what -1", x.pair(i, -1), NONE);
        Due.is("pair what 8", x.pair(i, 8), NONE);
    }

    private static final int[] NO_PAIR = {NONE, NONE, NONE, NONE, NONE, NONE, NONE, NONE};

    private static void pairOfAReceiver() {
        ChoiceBench x = new ChoiceBench(3);
        pairs(x, 0, NO_PAIR);
        x.spawn(0);
        x.offer(0);
        x.cancel(0);
        x.finish(0);
        Due.single(x, 0, Due.SEND, 5, 91);
        Due.until(x, 0, Due.ASLEEP);
        Due.single(x, 2, Due.RECEIVE, 5, 92);
        Due.until(x, 2, Due.SECOND);
        pairs(x, 0, NO_PAIR);
        x.step(2);
        // 4 STEPS of 0; PUBLISH, LOOK, CLAIM and SECOND of 2.
        pairs(x, 0, new int[] {2, 0, 5, 91, 0, 1, 2, 8});
        pairs(x, 1, NO_PAIR);
        pairs(x, -1, NO_PAIR);
        pairs(x, Integer.MIN_VALUE, NO_PAIR);
        pairs(x, Integer.MAX_VALUE, NO_PAIR);
    }

    private static void pairOfASender() {
        ChoiceBench x = new ChoiceBench(3);
        Due.single(x, 2, Due.RECEIVE, 0, 92);
        Due.until(x, 2, Due.LOOK);
        x.spawn(1);
        x.offer(1);
        x.cancel(1);
        x.finish(1);
        Due.single(x, 1, Due.SEND, 0, 91);
        Due.until(x, 1, Due.TELL);
        pairs(x, 0, new int[] {1, 2, 0, 91, 1, 2, 1, 5});
        Due.until(x, 1, Due.DONE);
        Due.until(x, 2, Due.DONE);
        pairs(x, 0, new int[] {1, 2, 0, 91, 1, 2, 1, 5});
    }

    private static void manyPairs() {
        ChoiceBench x = new ChoiceBench(16);
        int met = 0;
        for (int round = 0; round < 5; round++) {
            for (int p = 0; p < 16; p++) {
                x.spawn(p);
                x.guard(p, p % 2, p / 2, 1000 * round + p, true);
                x.offer(p);
            }
            met += x.run(3000, round);
            for (int p = 0; p < 16; p++) {
                x.finish(p);
            }
        }
        Due.is("PAIRS", met, 40);
        Due.is("count(2)", x.count(2), 40);
        Due.is("all finished", x.count(5), 0);
        for (int i = 0; i < 40; i++) {
            int sender = x.pair(i, 4);
            Due.is("what was sent", x.pair(i, 3), 1000 * (i / 8) + sender);
            Due.is("VERSION", x.pair(i, 5), i / 8 + 1);
        }
        Due.is("pair(40, 0)", x.pair(40, 0), NONE);
        Due.is("pair(200, 0)", x.pair(200, 0), NONE);
        Due.is("a PROCESS in several PAIRS is no double", x.doubles(), 0);
    }

    private static void doubles() {
        ChoiceBench x = new ChoiceBench(3);
        Due.is("doubles()", x.doubles(), 0);
        meet(x, 0, Due.SEND, 1, 0, new int[] {1, 2});
        Due.is("one PAIR", x.doubles(), 0);
        meet(x, 0, Due.SEND, 1, 0, new int[] {3, 4});
        meet(x, 0, Due.RECEIVE, 2, 1, new int[] {5, 6});
        Due.is("three PAIRS in three VERSIONS", x.doubles(), 0);
        Due.single(x, 0, Due.SEND, 0, 1);
        x.cancel(0);
        Due.is("OUT in a VERSION without a PAIR", x.doubles(), 0);
        Due.single(x, 1, Due.SEND, 0, 1);
        x.step(1);
        Due.single(x, 2, Due.RECEIVE, 0, 1);
        Due.until(x, 2, Due.TELL);
        Due.no("in a PAIR it can't be OUT", x.cancel(1));
        Due.is("a PAIR in the midst", x.doubles(), 0);
    }

    private static void unmetNeedsWaiting() {
        ChoiceBench x = new ChoiceBench(3);
        Due.is("all GONE", x.unmet(), 0);
        Due.single(x, 0, Due.SEND, 0, 1);
        Due.until(x, 0, Due.ASLEEP);
        Due.single(x, 1, Due.RECEIVE, 0, 2);
        Due.is("one is not ASLEEP", x.unmet(), 0);
        Due.until(x, 1, Due.OWN);
        Due.single(x, 2, Due.RECEIVE, 0, 3);
        Due.until(x, 2, Due.ASLEEP);
        Due.is("0 sleeps", x.phase(0), Due.ASLEEP);
        Due.is("2 sleeps", x.phase(2), Due.ASLEEP);
        Due.is("0 is TAKEN", x.word(0, 0), Due.TAKEN);
        Due.is("they match, but one is not WAITING", x.unmet(), 0);
    }

    private static void unmetNeedsMatches() {
        ChoiceBench x = new ChoiceBench(5);
        for (int p = 0; p < 5; p++) {
            x.spawn(p);
        }
        x.guard(0, Due.SEND, 0, 1, true);
        x.guard(0, Due.RECEIVE, 0, 1, true);
        x.guard(1, Due.SEND, 1, 1, true);
        x.guard(1, Due.RECEIVE, 0, 1, false);
        x.guard(2, Due.SEND, 1, 1, true);
        x.guard(2, Due.SEND, 0, 1, false);
        x.guard(3, Due.RECEIVE, 1, 1, false);
        x.guard(4, Due.RECEIVE, 2, 1, true);
        for (int p = 0; p < 5; p++) {
            x.offer(p);
        }
        Due.is("run", x.run(2000, 3), 0);
        for (int p = 0; p < 5; p++) {
            Due.phase("nobody matches", x, p, Due.ASLEEP);
            Due.is("WAITING", x.word(p, 0), Due.WAITING);
        }
        Due.is("unmet()", x.unmet(), 0);
    }

    private static void held() {
        ChoiceBench x = new ChoiceBench(4);
        Due.is("held()", x.held(), 0);
        Due.single(x, 0, Due.SEND, 0, 50);
        Due.until(x, 0, Due.ASLEEP);
        x.spawn(2);
        x.guard(2, Due.RECEIVE, 0, 0, true);
        x.guard(2, Due.SEND, 1, 60, true);
        x.offer(2);
        Due.until(x, 2, Due.SECOND);
        Due.is("by one in SECOND", x.held(), 0);
        Due.single(x, 3, Due.RECEIVE, 1, 0);
        Due.until(x, 3, Due.SECOND);
        x.step(2);
        Due.is("CLAIMED", x.word(0, 2), 2);
        Due.is("by one in BACK", x.held(), 0);
        x.step(3);
        Due.is("CLAIMED", x.word(2, 2), 3);
        Due.is("by one in TELL", x.held(), 0);
        x.step(3);
        Due.is("CLAIMED", x.word(3, 2), 3);
        Due.is("by one in OWN", x.held(), 0);
        Due.until(x, 2, Due.DONE);
        Due.until(x, 3, Due.DONE);
        Due.is("given back", x.word(0, 0), Due.WAITING);
        Due.is("held()", x.held(), 0);
    }

    private static void counts(ChoiceBench x, int[] want) {
        for (int what = 0; what < want.length; what++) {
            Due.is("count(" + what + ")", x.count(what), want[what]);
        }
    }

    private static void count() {
        ChoiceBench x = new ChoiceBench(4);
        Due.is("count(-1)", x.count(-1), NONE);
        Due.is("count(9)", x.count(9), NONE);
        Due.is("count(MIN)", x.count(Integer.MIN_VALUE), NONE);
        Due.is("count(MAX)", x.count(Integer.MAX_VALUE), NONE);
        x.spawn(3);
        counts(x, new int[] {4, 1, 0, 0, 0, 0, 0, 0, 0});
        Due.single(x, 0, Due.SEND, 1, 2);
        Due.until(x, 0, Due.ASLEEP);
        counts(x, new int[] {4, 2, 0, 0, 4, 1, 1, 0, 0});
        Due.single(x, 1, Due.RECEIVE, 1, 2);
        Due.single(x, 2, Due.RECEIVE, 1, 2);
        x.tick();
        Due.steps(x, 1, 3);
        counts(x, new int[] {4, 4, 0, 1, 7, 2, 2, 1, 0});
        Due.steps(x, 2, 3);
        counts(x, new int[] {4, 4, 0, 1, 10, 3, 3, 2, 1});
        x.step(1);
        counts(x, new int[] {4, 4, 1, 1, 11, 3, 3, 3, 1});
        Due.until(x, 1, Due.DONE);
        counts(x, new int[] {4, 4, 1, 1, 14, 2, 3, 3, 1});
        x.finish(1);
        x.quit(1);
        x.quit(3);
        counts(x, new int[] {4, 2, 1, 1, 14, 2, 3, 3, 1});
    }
}
