import java.util.function.BiPredicate;
import java.util.function.Predicate;

/**
 * Objects of four PROCESSES in the states that the edges need. The one that is looked at is 1: it has a
 * GUARD to send 71 on CHANNEL 1, then one to receive on CHANNEL 0, and a time-out of 4. Of the others 0
 * sends 70 on CHANNEL 0, and 2 receives on CHANNEL 1.
 */
final class Scene {
    static final int[] OFFERING = {
        Due.PUBLISH, Due.LOOK, Due.CLAIM, Due.SECOND, Due.BACK, Due.TELL, Due.OWN, Due.END, Due.ASLEEP,
        Due.WITHDRAW
    };
    static final int[] HEEDS_TIME = {Due.PUBLISH, Due.LOOK, Due.END, Due.ASLEEP};
    static final int[] NO_PROCESS = {-1, 4, 15, 16, Integer.MIN_VALUE, Integer.MAX_VALUE};

    private Scene() {
    }

    /** 1 is in this PHASE. From CLAIM to OWN, in WITHDRAW and in DONE it has met 0; in BACK 2 holds it. */
    static ChoiceBench oneIn(int phase) {
        ChoiceBench x = new ChoiceBench(4);
        if (phase == Due.GONE) {
            return x;
        }
        boolean meets = phase >= Due.CLAIM && phase <= Due.OWN || phase >= Due.WITHDRAW;
        if (meets) {
            zeroSleeps(x);
        }
        prepareOne(x);
        if (phase == Due.IDLE) {
            return x;
        }
        x.offer(1);
        if (phase == Due.BACK) {
            Due.until(x, 1, Due.SECOND);
            twoHoldsOne(x);
        }
        Due.until(x, 1, phase);
        return x;
    }

    /** All four are in this PHASE: GONE, IDLE, one from LOOK on, or DONE at once. No two of them match. */
    static ChoiceBench allIn(int phase) {
        ChoiceBench x = new ChoiceBench(4);
        for (int p = 0; p < 4 && phase != Due.GONE; p++) {
            x.spawn(p);
            x.guard(p, Due.SEND, p, 80 + p, true);
            if (phase != Due.IDLE) {
                x.offer(p);
            }
            if (phase == Due.DONE) {
                x.cancel(p);
            }
            Due.until(x, p, phase);
        }
        return x;
    }

    static void zeroSleeps(ChoiceBench x) {
        Due.single(x, 0, Due.SEND, 0, 70);
        Due.until(x, 0, Due.ASLEEP);
    }

    static void prepareOne(ChoiceBench x) {
        x.spawn(1);
        x.guard(1, Due.SEND, 1, 71, true);
        x.guard(1, Due.RECEIVE, 0, 17, true);
        x.timeout(1, 4);
    }

    /** 2 is in SECOND, and 1, if it has published its first GUARD, is CLAIMED by it. */
    static void twoHoldsOne(ChoiceBench x) {
        Due.single(x, 2, Due.RECEIVE, 1, 0);
        Due.until(x, 2, Due.SECOND);
        Due.is("1 is CLAIMED by", x.word(1, 2), 2);
    }

    /** Behind twoHoldsOne: 1 is TAKEN, 2 in OWN. */
    static void twoTakesOne(ChoiceBench x) {
        Due.until(x, 2, Due.OWN);
        Due.is("1 is TAKEN", x.word(1, 0), Due.TAKEN);
    }

    /** Behind twoHoldsOne: 2 is taken back and gives 1 back, which is WAITING. */
    static void twoGivesOneBack(ChoiceBench x) {
        x.cancel(2);
        Due.steps(x, 2, 2);
        Due.is("1 is WAITING", x.word(1, 0), Due.WAITING);
    }

    /** 1 is in PUBLISH (behind its first ENTRY), LOOK, END or ASLEEP, and CLAIMED by 2, in SECOND. */
    static ChoiceBench oneHeldIn(int phase) {
        ChoiceBench x = oneIn(Due.PUBLISH);
        x.step(1);
        Due.until(x, 1, phase);
        twoHoldsOne(x);
        return x;
    }

    /** 1 was taken back in BACK: it is in LOOK behind that, and its WORD OUT. Nobody else is left there. */
    static ChoiceBench oneOutInLook() {
        ChoiceBench x = oneIn(Due.BACK);
        twoGivesOneBack(x);
        x.step(2);
        Due.yes("cancel(1)", x.cancel(1));
        x.step(1);
        Due.phase("behind BACK", x, 1, Due.LOOK);
        Due.is("1 is OUT", x.word(1, 0), Due.OUT);
        return x;
    }

    static void ticks(ChoiceBench x, int n) {
        for (int i = 0; i < n; i++) {
            x.tick();
        }
    }

    static void looksAgain(ChoiceBench x, int p) {
        Due.until(x, p, Due.END);
        Due.is("step(" + p + ") in END, BUSY", x.step(p), 0);
        Due.phase("BUSY", x, p, Due.LOOK);
    }

    static void fallsAsleep(ChoiceBench x, int p) {
        Due.until(x, p, Due.END);
        Due.is("step(" + p + ") in END, not BUSY", x.step(p), 1);
        Due.phase("not BUSY", x, p, Due.ASLEEP);
    }

    /** What is refused changes nothing: x goes on as another one in the same state, without the call. */
    static void refused(String call, Predicate<ChoiceBench> made, int phase) {
        ChoiceBench x = oneIn(phase);
        Due.no(call + " in PHASE " + phase, made.test(x));
        goesOnAs(call, x, oneIn(phase));
    }

    static void refusedInAll(String call, Predicate<ChoiceBench> made, int[] phases) {
        for (int phase : phases) {
            refused(call, made, phase);
        }
    }

    /** All that there are would take the call, so one that takes p for one of them is found out. */
    static void refusedOfNoProcess(String call, BiPredicate<ChoiceBench, Integer> made, int phase) {
        for (int p : NO_PROCESS) {
            ChoiceBench x = allIn(phase);
            Due.no(call + " of " + p, made.test(x, p));
            goesOnAs(call + " of " + p, x, allIn(phase));
        }
    }

    /** Compares what both tell, now and while both go on. It takes some 200 calls of each. */
    static void goesOnAs(String call, ChoiceBench x, ChoiceBench y) {
        tellTheSame(call + " changed", x, y);
        Due.is(call + ": offer(1)", x.offer(1) ? 1 : 0, y.offer(1) ? 1 : 0);
        Due.is(call + ": run(20, 3)", x.run(20, 3), y.run(20, 3));
        ticks(x, 4);
        ticks(y, 4);
        Due.is(call + ": run(9, 4)", x.run(9, 4), y.run(9, 4));
        tellTheSame(call + " changed what comes", x, y);
        Due.is(call + ": run(300, 5)", x.run(300, 5), y.run(300, 5));
        Due.is(call + ": step(1)", x.step(1), y.step(1));
        Due.is(call + ": STEPS", x.count(4), y.count(4));
    }

    private static void tellTheSame(String call, ChoiceBench x, ChoiceBench y) {
        for (int p = 0; p < 4; p++) {
            Due.is(call + " phase(" + p + ")", x.phase(p), y.phase(p));
            for (int what = 0; what < 3; what++) {
                Due.is(call + " word(" + p + ", " + what + ")", x.word(p, what), y.word(p, what));
            }
            for (int what = 0; what < 4; what++) {
                Due.is(call + " outcome(" + p + ", " + what + ")", x.outcome(p, what), y.outcome(p, what));
            }
        }
        for (int i = 0; i < 4; i++) {
            for (int what = 0; what < 5; what++) {
                Due.is(call + " entry(0, " + i + ", " + what + ")", x.entry(0, i, what), y.entry(0, i, what));
                Due.is(call + " entry(1, " + i + ", " + what + ")", x.entry(1, i, what), y.entry(1, i, what));
            }
        }
        for (int what = 0; what < 9; what++) {
            Due.is(call + " pair(0, " + what + ")", x.pair(0, what), y.pair(0, what));
            Due.is(call + " count(" + what + ")", x.count(what), y.count(what));
        }
        Due.is(call + " doubles()", x.doubles(), y.doubles());
        Due.is(call + " unmet()", x.unmet(), y.unmet());
        Due.is(call + " held()", x.held(), y.held());
    }
}
