import java.lang.reflect.Array;
import java.lang.reflect.Field;

/**
 * The edges of promises 5 to 7 and 16 to 20 that calls alone can't reach: the steps never let doubles(),
 * unmet() and held() be above 0, and 512 calls are too few for VERSION 1000, CLOCK 1000 or 200 PAIRS. So
 * this test writes into the private state, and is the only one that knows how it is held. A field that
 * it does not find breaks it off: whoever holds the state in another way writes this test anew.
 */
public final class ForcedStateTest {
    private static final int NONE = ChoiceBench.NONE;

    public static void main(String[] args) throws ReflectiveOperationException {
        largestTimeout();
        versionBeforeTheLast();
        lastVersion();
        asleepWhenOut();
        busyWithoutGuards();
        lastKnownPair();
        pairsNotKnownCount();
        inTwoPairs();
        inTwoPairsNotKnown();
        inOnePairAndOut();
        outAndInOnePair();
        unmet();
        unmetNotWaiting();
        unmetNotAsleep();
        unmetWithoutMatch();
        unmetIsOfCouples();
        unmetForgetsOldGuards();
        held();
        heldOnlyIfClaimed();
        Due.end();
    }

    private static Object get(Object of, String name) throws ReflectiveOperationException {
        Field f = of.getClass().getDeclaredField(name);
        f.setAccessible(true);
        return f.get(of);
    }

    private static void set(Object of, String name, int value) throws ReflectiveOperationException {
        Field f = of.getClass().getDeclaredField(name);
        f.setAccessible(true);
        f.setInt(of, value);
    }

    private static Object process(ChoiceBench x, int p) throws ReflectiveOperationException {
        return Array.get(get(x, "procs"), p);
    }

    private static void setWord(ChoiceBench x, int p, String part, int value)
            throws ReflectiveOperationException {
        set(get(process(x, p), "word"), part, value);
    }

    private static void setPhase(ChoiceBench x, int p, int phase) throws ReflectiveOperationException {
        set(process(x, p), "phase", phase);
    }

    private static void setBusy(ChoiceBench x, int p) throws ReflectiveOperationException {
        Object process = process(x, p);
        Field f = process.getClass().getDeclaredField("busy");
        f.setAccessible(true);
        f.setBoolean(process, true);
    }

    private static void largestTimeout() throws ReflectiveOperationException {
        Due.sentence(5, "n is not 0 .. 1000: the largest one, DUE at CLOCK 1000");
        ChoiceBench x = new ChoiceBench(2);
        x.spawn(0);
        Due.yes("timeout(0, 1000)", x.timeout(0, 1000));
        x.offer(0);
        set(x, "clock", 999);
        Due.is("step(0) at CLOCK 999", x.step(0), 1);
        Due.is("tick()", x.tick(), 1000);
        Due.is("step(0) at CLOCK 1000", x.step(0), 3);
    }

    private static void versionBeforeTheLast() throws ReflectiveOperationException {
        Due.sentence(6, "or its VERSION is 1000: it is 999");
        ChoiceBench x = new ChoiceBench(2);
        x.spawn(0);
        setWord(x, 0, "version", 999);
        Due.yes("offer(0)", x.offer(0));
        Due.is("word(0, 1)", x.word(0, 1), 1000);
        Due.is("word(0, 0)", x.word(0, 0), Due.WAITING);
    }

    private static void lastVersion() throws ReflectiveOperationException {
        Due.sentence(6, "false if .. its VERSION is 1000");
        ChoiceBench x = new ChoiceBench(2);
        x.spawn(0);
        setWord(x, 0, "version", 1000);
        Due.no("offer(0)", x.offer(0));
        Due.is("word(0, 1)", x.word(0, 1), 1000);
        Due.is("word(0, 0)", x.word(0, 0), Due.FREE);
        Due.phase("refused", x, 0, Due.IDLE);
        x.spawn(1);
        Due.yes("offer(1)", x.offer(1));
    }

    private static void asleepWhenOut() throws ReflectiveOperationException {
        Due.sentence(7, "ASLEEP: p's WORD is read. .. OUT: WITHDRAW");
        ChoiceBench x = Scene.oneIn(Due.ASLEEP);
        setWord(x, 1, "kind", Due.OUT);
        Due.is("step(1)", x.step(1), 0);
        Due.phase("OUT", x, 1, Due.WITHDRAW);
    }

    private static void busyWithoutGuards() throws ReflectiveOperationException {
        Due.sentence(7, "if p is BUSY: .. (without such a one: ASLEEP)");
        ChoiceBench x = new ChoiceBench(2);
        x.spawn(0);
        x.guard(0, Due.SEND, 0, 5, false);
        x.offer(0);
        setBusy(x, 0);
        Due.is("step(0)", x.step(0), 1);
        Due.phase("no GUARD is ON", x, 0, Due.ASLEEP);
    }

    /** Three PAIRS came, the first of them the 200th. */
    private static ChoiceBench aroundTheLastKnown() throws ReflectiveOperationException {
        ChoiceBench x = new ChoiceBench(2);
        set(get(x, "pairs"), "size", 199);
        for (int round = 1; round <= 3; round++) {
            Due.single(x, 0, Due.SEND, 0, round);
            Due.until(x, 0, Due.ASLEEP);
            Due.single(x, 1, Due.RECEIVE, 0, 0);
            Due.until(x, 1, Due.DONE);
            Due.until(x, 0, Due.DONE);
            x.finish(0);
            x.finish(1);
        }
        return x;
    }

    private static void lastKnownPair() throws ReflectiveOperationException {
        Due.sentence(16, "the first 200 are known");
        ChoiceBench x = aroundTheLastKnown();
        int[] last = {1, 0, 0, 1, 0, 1, 1, 8};
        for (int what = 0; what < 8; what++) {
            Due.is("pair(199, " + what + ")", x.pair(199, what), last[what]);
            for (int i = 200; i < 203; i++) {
                Due.is("pair(" + i + ", " + what + ")", x.pair(i, what), NONE);
            }
        }
    }

    private static void pairsNotKnownCount() throws ReflectiveOperationException {
        Due.sentence(20, "2: PAIRS that came: those that are not known too");
        ChoiceBench x = aroundTheLastKnown();
        Due.is("count(2)", x.count(2), 202);
        Due.single(x, 0, Due.SEND, 0, 5);
        Due.single(x, 1, Due.RECEIVE, 0, 5);
        Due.is("run(200, 1)", x.run(200, 1), 1);
        Due.is("count(2)", x.count(2), 203);
    }

    /** 1 and 0 are a PAIR, 1 is behind TELL and OWN; 0, ASLEEP, has not seen it. */
    private static ChoiceBench oneMet() {
        ChoiceBench x = new ChoiceBench(4);
        Due.single(x, 0, Due.SEND, 0, 5);
        Due.until(x, 0, Due.ASLEEP);
        Due.single(x, 1, Due.RECEIVE, 0, 0);
        Due.until(x, 1, Due.WITHDRAW);
        Due.is("no doubles", x.doubles(), 0);
        return x;
    }

    private static void inTwoPairs() throws ReflectiveOperationException {
        Due.sentence(17, "are in more than one PAIR");
        ChoiceBench x = oneMet();
        setWord(x, 0, "kind", Due.WAITING);
        Due.single(x, 2, Due.RECEIVE, 0, 0);
        Due.until(x, 2, Due.TELL);
        Due.is("0 is in two PAIRS", x.doubles(), 1);
        setWord(x, 0, "kind", Due.WAITING);
        Due.single(x, 3, Due.RECEIVE, 0, 0);
        Due.until(x, 3, Due.TELL);
        Due.is("0 is in three, and counts once", x.doubles(), 1);
        setWord(x, 0, "kind", Due.WAITING);
        x.cancel(0);
        Due.is("and OUT, and counts once", x.doubles(), 1);
        Due.is("WITHDRAW", x.step(0), 5);
        x.finish(0);
        setWord(x, 3, "kind", Due.WAITING);
        setPhase(x, 3, Due.ASLEEP);
        Due.single(x, 0, Due.SEND, 0, 5);
        // It finds the ENTRY of 1 first, which is TAKEN, then that of 2, CLAIMED, then that of 3.
        Due.until(x, 0, Due.TELL);
        Due.is("0 met 3", x.pair(3, 1), 3);
        Due.is("3 is in two PAIRS, 0 is not in its new VERSION", x.doubles(), 2);
    }

    private static void inTwoPairsNotKnown() throws ReflectiveOperationException {
        Due.sentence(17, "(of all PAIRS): the first 200 and those behind them");
        for (int size : new int[] {199, 200, 300}) {
            ChoiceBench x = oneMet();
            set(get(x, "pairs"), "size", size);
            setWord(x, 0, "kind", Due.WAITING);
            Due.single(x, 2, Due.RECEIVE, 0, 0);
            Due.until(x, 2, Due.TELL);
            Due.is("doubles() behind " + size + " PAIRS", x.doubles(), 1);
        }
    }

    private static void inOnePairAndOut() throws ReflectiveOperationException {
        Due.sentence(17, "or in one and OUT: OUT behind the PAIR");
        ChoiceBench x = oneMet();
        setWord(x, 0, "kind", Due.WAITING);
        Due.yes("cancel", x.cancel(0));
        Due.is("in one PAIR and OUT", x.doubles(), 1);
        Due.is("WITHDRAW", x.step(0), 5);
        x.finish(0);
        Due.is("it stays so", x.doubles(), 1);
        Due.single(x, 0, Due.SEND, 0, 5);
        Due.until(x, 0, Due.ASLEEP);
        Due.single(x, 2, Due.RECEIVE, 0, 0);
        Due.until(x, 2, Due.TELL);
        Due.is("in one PAIR in its next VERSION", x.doubles(), 1);
        setWord(x, 0, "kind", Due.WAITING);
        x.cancel(0);
        Due.is("and OUT there too", x.doubles(), 2);
    }

    private static void outAndInOnePair() throws ReflectiveOperationException {
        Due.sentence(17, "or in one and OUT: OUT before the PAIR");
        ChoiceBench x = new ChoiceBench(2);
        Due.single(x, 0, Due.SEND, 0, 5);
        Due.until(x, 0, Due.ASLEEP);
        Due.single(x, 1, Due.RECEIVE, 0, 0);
        Due.until(x, 1, Due.SECOND);
        Due.yes("cancel in SECOND", x.cancel(1));
        setWord(x, 1, "kind", Due.WAITING);
        x.step(1);
        Due.is("a PAIR", x.count(2), 1);
        Due.is("1 was OUT, 0 was not", x.doubles(), 1);
    }

    private static void sleep(ChoiceBench x, int p, int[][] guards) throws ReflectiveOperationException {
        x.spawn(p);
        for (int[] g : guards) {
            x.guard(p, g[0], g[1], 0, g[2] == 1);
        }
        x.offer(p);
        setPhase(x, p, Due.ASLEEP);
    }

    private static ChoiceBench bothSleep() throws ReflectiveOperationException {
        ChoiceBench x = new ChoiceBench(2);
        sleep(x, 0, new int[][] {{Due.SEND, 0, 1}});
        sleep(x, 1, new int[][] {{Due.RECEIVE, 0, 1}});
        return x;
    }

    private static void unmet() throws ReflectiveOperationException {
        Due.sentence(18, "are both ASLEEP with WORDS that are WAITING, and have GUARDS that MATCH");
        Due.is("unmet()", bothSleep().unmet(), 1);
    }

    private static void unmetNotWaiting() throws ReflectiveOperationException {
        Due.sentence(18, "with WORDS that are WAITING: either one is of another kind");
        for (int p = 0; p < 2; p++) {
            for (int kind = Due.FREE; kind <= Due.OUT; kind++) {
                ChoiceBench x = bothSleep();
                setWord(x, p, "kind", kind);
                Due.is("the WORD of " + p + " is " + kind + ": unmet()", x.unmet(), kind == Due.WAITING ? 1 : 0);
            }
        }
    }

    private static void unmetNotAsleep() throws ReflectiveOperationException {
        Due.sentence(18, "are both ASLEEP: either one is in another PHASE");
        for (int p = 0; p < 2; p++) {
            for (int phase = Due.GONE; phase <= Due.DONE; phase++) {
                ChoiceBench x = bothSleep();
                setPhase(x, p, phase);
                Due.is("the PHASE of " + p + " is " + phase + ": unmet()", x.unmet(), phase == Due.ASLEEP ? 1 : 0);
            }
        }
    }

    private static void unmetWithoutMatch() throws ReflectiveOperationException {
        Due.sentence(18, "and have GUARDS that MATCH: either one has none");
        int[][] others = {{Due.SEND, 0, 1}, {Due.RECEIVE, 1, 1}, {Due.RECEIVE, 0, 0}};
        for (int[] other : others) {
            for (int p = 0; p < 2; p++) {
                ChoiceBench x = new ChoiceBench(2);
                sleep(x, p, new int[][] {{Due.SEND, 0, 1}});
                sleep(x, 1 - p, new int[][] {other});
                Due.is("unmet()", x.unmet(), 0);
            }
        }
    }

    private static void unmetIsOfCouples() throws ReflectiveOperationException {
        Due.sentence(18, "How many couples of PROCESSES: each once, of all that there are");
        ChoiceBench x = new ChoiceBench(16);
        for (int p = 0; p < 16; p++) {
            sleep(x, p, new int[][] {{Due.SEND, 3, 1}, {Due.RECEIVE, 3, 1}, {Due.RECEIVE, 3, 1}});
        }
        Due.is("each couple once", x.unmet(), 120);
        ChoiceBench y = new ChoiceBench(3);
        int[][] eight = new int[8][];
        for (int i = 0; i < 8; i++) {
            eight[i] = new int[] {Due.SEND, i, 1};
        }
        sleep(y, 1, eight);
        sleep(y, 2, new int[][] {{Due.SEND, 0, 1}, {Due.RECEIVE, 7, 1}});
        Due.is("the last GUARDS of both", y.unmet(), 1);
    }

    private static void unmetForgetsOldGuards() throws ReflectiveOperationException {
        Due.sentence(18, "and have GUARDS that MATCH: now, not in an earlier OFFER");
        for (int p = 0; p < 2; p++) {
            ChoiceBench x = new ChoiceBench(2);
            sleep(x, 1 - p, new int[][] {{Due.SEND, 0, 1}});
            sleep(x, p, new int[][] {{Due.RECEIVE, 0, 1}, {Due.RECEIVE, 0, 1}, {Due.RECEIVE, 0, 1}});
            Due.is("unmet()", x.unmet(), 1);
            x.cancel(p);
            x.finish(p);
            sleep(x, p, new int[][] {{Due.SEND, 0, 1}});
            Due.is("unmet() in the next OFFER of " + p, x.unmet(), 0);
        }
    }

    private static void claimAll(ChoiceBench x, int claimer) throws ReflectiveOperationException {
        for (int p = 0; p < 3; p++) {
            setWord(x, p, "kind", Due.CLAIMED);
            setWord(x, p, "claimer", claimer);
        }
    }

    private static void held() throws ReflectiveOperationException {
        Due.sentence(19, "by a PROCESS that is not in SECOND, BACK, TELL or OWN: in each other PHASE");
        ChoiceBench x = new ChoiceBench(3);
        for (int claimer = 0; claimer < 3; claimer++) {
            claimAll(x, claimer);
            for (int phase = Due.GONE; phase <= Due.DONE; phase++) {
                setPhase(x, claimer, phase);
                boolean may = phase == Due.SECOND || phase == Due.BACK || phase == Due.TELL || phase == Due.OWN;
                Due.is("by " + claimer + " in PHASE " + phase + ": held()", x.held(), may ? 0 : 3);
            }
        }
    }

    private static void heldOnlyIfClaimed() throws ReflectiveOperationException {
        Due.sentence(19, "How many WORDS are CLAIMED: not those of another kind");
        for (int kind = Due.FREE; kind <= Due.OUT; kind++) {
            ChoiceBench x = new ChoiceBench(3);
            claimAll(x, 0);
            setWord(x, 1, "kind", kind);
            Due.is("one of three is " + kind + ": held()", x.held(), kind == Due.CLAIMED ? 3 : 2);
        }
    }
}
