/** Promises 7, 8 and 11: step in each PHASE, cancel, run. */
public final class StepTest {
    public static void main(String[] args) {
        stepOfOthers();
        lowerOneClaims();
        higherOneClaims();
        lookReadsOneEntryAStep();
        matchesMustBeOfTheOtherKind();
        claimFindsClaimed();
        claimFindsOwnTaken();
        claimFindsOwnClaimed();
        claimFindsOtherVersion();
        claimFindsOtherVersionClaimed();
        secondFindsClaimed();
        secondFindsOtherVersion();
        secondFindsOwnClaimed();
        secondFindsOwnTaken();
        backLooksAtWhatSecondFound();
        endAndSleepFindTaken();
        withdrawInOrder();
        timeInPublish();
        timeInLookEndAndSleep();
        timeIsNotHeededWhileClaiming();
        timeFindsClaimedAndTaken();
        cancelRefused();
        cancelInEachPhase();
        cancelInSecond();
        cancelInBack();
        cancelInBackWhenDue();
        runIsSteps();
        Due.end();
    }

    private static void stepOfOthers() {
        ChoiceBench x = new ChoiceBench(2);
        Due.is("step(-1)", x.step(-1), ChoiceBench.NONE);
        Due.is("step(2)", x.step(2), ChoiceBench.NONE);
        Due.is("step of a GONE one", x.step(0), ChoiceBench.NONE);
        x.spawn(0);
        Due.is("step of an IDLE one", x.step(0), 4);
        Due.phase("no STEP", x, 0, Due.IDLE);
        x.offer(0);
        x.cancel(0);
        Due.is("step of a DONE one", x.step(0), 5);
        Due.is("step of a DONE one again", x.step(0), 5);
        Due.is("none of these was a STEP", x.count(4), 0);
        x.finish(0);
        Due.is("IDLE again", x.step(0), 4);
        x.quit(0);
        Due.is("GONE again", x.step(0), ChoiceBench.NONE);
    }

    /** 1 sends 77 on CHANNEL 3 and is ASLEEP. */
    private static ChoiceBench senderAsleep(int processes) {
        ChoiceBench x = new ChoiceBench(processes);
        Due.single(x, 1, Due.SEND, 3, 77);
        Due.until(x, 1, Due.ASLEEP);
        return x;
    }

    private static void lowerOneClaims() {
        ChoiceBench x = senderAsleep(2);
        Due.single(x, 0, Due.RECEIVE, 3, 5);
        Due.is("PUBLISH", x.step(0), 0);
        Due.phase("published", x, 0, Due.LOOK);
        Due.is("LOOK", x.step(0), 0);
        Due.phase("found", x, 0, Due.CLAIM);
        Due.is("CLAIM", x.step(0), 0);
        Due.phase("its own WORD first", x, 0, Due.SECOND);
        Due.is("own WORD", x.word(0, 0), Due.CLAIMED);
        Due.is("own WORD by", x.word(0, 2), 0);
        Due.is("other WORD", x.word(1, 0), Due.WAITING);
        Due.is("no PAIR yet", x.count(2), 0);
        Due.is("SECOND", x.step(0), 0);
        Due.phase("a PAIR", x, 0, Due.TELL);
        Due.is("other WORD", x.word(1, 0), Due.CLAIMED);
        Due.is("other WORD by", x.word(1, 2), 0);
        Due.is("a PAIR", x.count(2), 1);
        Due.is("nobody was told", x.outcome(1, 0), ChoiceBench.NONE);
        Due.is("TELL", x.step(0), 0);
        Due.phase("told", x, 0, Due.OWN);
        Due.is("other WORD", x.word(1, 0), Due.TAKEN);
        Due.is("nobody CLAIMED it any more", x.word(1, 2), ChoiceBench.NONE);
        Due.is("own WORD", x.word(0, 0), Due.CLAIMED);
        Due.is("its PARTNER", x.outcome(1, 0), 0);
        Due.is("own PARTNER not yet", x.outcome(0, 0), ChoiceBench.NONE);
        Due.is("OWN", x.step(0), 0);
        Due.phase("own", x, 0, Due.WITHDRAW);
        Due.is("own WORD", x.word(0, 0), Due.TAKEN);
        Due.is("own PARTNER", x.outcome(0, 0), 1);
        Due.is("it got", x.outcome(0, 2), 77);
        Due.is("WITHDRAW", x.step(0), 2);
        Due.phase("done", x, 0, Due.DONE);
        Due.is("done", x.step(0), 2);
        Due.is("the ENTRY of 1 is still there", x.entry(3, 0, 0), 1);
        Due.is("ASLEEP finds it", x.step(1), 0);
        Due.phase("woken", x, 1, Due.WITHDRAW);
        Due.is("WITHDRAW", x.step(1), 2);
        Due.is("no ENTRY", x.count(5), 0);
        Due.is("STEPS", x.count(4), 4 + 7 + 2);
    }

    private static void higherOneClaims() {
        ChoiceBench x = new ChoiceBench(4);
        Due.single(x, 1, Due.RECEIVE, 6, 9);
        Due.until(x, 1, Due.ASLEEP);
        Due.single(x, 3, Due.SEND, 6, -4);
        Due.until(x, 3, Due.CLAIM);
        x.step(3);
        Due.is("the lower one first", x.word(1, 2), 3);
        Due.is("its own WORD is left", x.word(3, 0), Due.WAITING);
        x.step(3);
        Due.is("then its own", x.word(3, 2), 3);
        Due.phase("a PAIR", x, 3, Due.TELL);
        x.step(3);
        Due.is("1 got", x.outcome(1, 2), -4);
        Due.is("3 is still CLAIMED", x.word(3, 2), 3);
        x.step(3);
        Due.is("3 got nothing", x.outcome(3, 2), 0);
        Due.is("WITHDRAW", x.step(3), 2);
    }

    private static void lookReadsOneEntryAStep() {
        ChoiceBench x = new ChoiceBench(5);
        for (int p = 1; p < 5; p++) {
            Due.single(x, p, Due.SEND, 0, p);
            x.step(p);
        }
        x.spawn(0);
        x.guard(0, Due.SEND, 0, 0, true);
        x.guard(0, Due.RECEIVE, 0, 0, true);
        x.offer(0);
        x.step(0);
        x.step(0);
        // The first GUARD: four others that send too, two of its own, none.
        for (int i = 0; i < 7; i++) {
            Due.phase("LOOK " + i, x, 0, Due.LOOK);
            x.step(0);
        }
        Due.phase("LOOK at the second GUARD", x, 0, Due.LOOK);
        x.step(0);
        Due.phase("from 0 on again: the first that sends", x, 0, Due.CLAIM);
        x.step(0);
        x.step(0);
        Due.is("with 1", x.pair(0, 1), 1);
    }

    private static void matchesMustBeOfTheOtherKind() {
        ChoiceBench x = new ChoiceBench(2);
        // Its own two would match, if they were of two PROCESSES.
        x.spawn(0);
        x.guard(0, Due.SEND, 0, 1, true);
        x.guard(0, Due.RECEIVE, 0, 2, true);
        x.guard(0, Due.RECEIVE, 1, 2, true);
        x.offer(0);
        Due.single(x, 1, Due.RECEIVE, 1, 0);
        Due.until(x, 0, Due.ASLEEP);
        Due.until(x, 1, Due.ASLEEP);
        Due.is("nobody TRIED", x.count(7), 0);
        Due.is("STEPS of 0: 3 ENTRIES, 3 + 3 + 2 LOOKS, END", x.count(4), 12 + 5);
    }

    /** 0 sends and is ASLEEP; 1, which receives, holds the WORD of 0, in SECOND; 2 receives too. */
    private static ChoiceBench zeroHeldByOne() {
        ChoiceBench x = new ChoiceBench(3);
        Due.single(x, 0, Due.SEND, 0, 7);
        Due.until(x, 0, Due.ASLEEP);
        Due.single(x, 1, Due.RECEIVE, 0, 0);
        Due.until(x, 1, Due.SECOND);
        Due.is("0 by", x.word(0, 2), 1);
        return x;
    }

    private static void claimFindsClaimed() {
        ChoiceBench x = zeroHeldByOne();
        Due.single(x, 2, Due.RECEIVE, 0, 0);
        Due.until(x, 2, Due.CLAIM);
        Due.is("CLAIM", x.step(2), 0);
        Due.phase("LOOK goes on", x, 2, Due.LOOK);
        Due.is("0 is still of 1", x.word(0, 2), 1);
        Due.is("TRIED", x.count(7), 2);
        Due.is("not well", x.count(8), 1);
        // The ENTRY of 1, its own, none.
        Due.steps(x, 2, 3);
        Due.phase("all", x, 2, Due.END);
        Due.is("BUSY", x.step(2), 0);
        Due.phase("it looks again", x, 2, Due.LOOK);
        x.step(2);
        Due.phase("from 0 on", x, 2, Due.CLAIM);
        x.step(1);
        x.step(1);
        Due.is("1 took 0", x.word(0, 0), Due.TAKEN);
        x.step(2);
        Due.phase("LOOK goes on", x, 2, Due.LOOK);
        Due.steps(x, 2, 3);
        Due.is("not BUSY: it sleeps", x.step(2), 1);
        Due.is("it stays so", x.step(2), 1);
        Due.is("its WORD", x.word(2, 0), Due.WAITING);
    }

    /** 0 receives and is in CLAIM, after 1, which sends; 2 sends and has claimed both 0 and itself. */
    private static ChoiceBench zeroTakenInClaim() {
        ChoiceBench x = new ChoiceBench(3);
        Due.single(x, 1, Due.SEND, 0, 11);
        Due.until(x, 1, Due.ASLEEP);
        Due.single(x, 0, Due.RECEIVE, 0, 0);
        Due.until(x, 0, Due.CLAIM);
        Due.single(x, 2, Due.SEND, 0, 22);
        Due.until(x, 2, Due.TELL);
        Due.is("0 by", x.word(0, 2), 2);
        return x;
    }

    private static void claimFindsOwnTaken() {
        ChoiceBench x = zeroTakenInClaim();
        x.step(2);
        Due.is("TAKEN", x.word(0, 0), Due.TAKEN);
        Due.is("CLAIM", x.step(0), 0);
        Due.phase("its own is TAKEN", x, 0, Due.WITHDRAW);
        Due.is("WITHDRAW", x.step(0), 2);
        Due.is("it got", x.outcome(0, 2), 22);
        Due.is("1 is left", x.word(1, 0), Due.WAITING);
    }

    private static void claimFindsOwnClaimed() {
        ChoiceBench x = zeroTakenInClaim();
        Due.is("CLAIM", x.step(0), 0);
        Due.phase("its own is CLAIMED", x, 0, Due.LOOK);
        Due.is("by 2 still", x.word(0, 2), 2);
        Due.is("the own ENTRY", x.step(0), 0);
        Due.is("the ENTRY of 2", x.step(0), 0);
        Due.phase("2 sends", x, 0, Due.CLAIM);
        Due.is("CLAIM", x.step(0), 0);
        Due.is("none", x.step(0), 0);
        Due.phase("none", x, 0, Due.END);
        Due.is("BUSY", x.step(0), 0);
        Due.phase("again", x, 0, Due.LOOK);
    }

    /** 1 receives on CHANNEL 0 and is in CLAIM, after 0 in its first VERSION; 0 is IDLE behind that. */
    private static ChoiceBench zeroLeft() {
        ChoiceBench x = new ChoiceBench(3);
        Due.single(x, 0, Due.SEND, 0, 7);
        Due.until(x, 0, Due.ASLEEP);
        Due.single(x, 1, Due.RECEIVE, 0, 0);
        Due.until(x, 1, Due.CLAIM);
        Due.yes("cancel(0)", x.cancel(0));
        Due.is("WITHDRAW", x.step(0), 5);
        Due.yes("finish(0)", x.finish(0));
        return x;
    }

    private static void claimFindsOtherVersion() {
        ChoiceBench x = zeroLeft();
        Due.single(x, 0, Due.SEND, 0, 8);
        Due.is("WAITING", x.word(0, 0), Due.WAITING);
        Due.is("CLAIM", x.step(1), 0);
        Due.phase("another VERSION", x, 1, Due.LOOK);
        Due.is("it stays", x.word(0, 0), Due.WAITING);
        Due.is("not well", x.count(8), 1);
        Due.steps(x, 1, 2);
        Due.is("not BUSY", x.step(1), 1);

        ChoiceBench y = zeroLeft();
        y.step(1);
        Due.is("FREE: not well", y.count(8), 1);
        Due.is("it stays FREE", y.word(0, 0), Due.FREE);
        Due.phase("LOOK goes on", y, 1, Due.LOOK);
    }

    private static void claimFindsOtherVersionClaimed() {
        ChoiceBench x = zeroLeft();
        Due.single(x, 0, Due.SEND, 1, 8);
        x.step(0);
        Due.single(x, 2, Due.RECEIVE, 1, 0);
        Due.until(x, 2, Due.SECOND);
        Due.is("CLAIMED", x.word(0, 2), 2);
        x.step(1);
        Due.phase("another VERSION", x, 1, Due.LOOK);
        Due.steps(x, 1, 2);
        Due.is("not BUSY", x.step(1), 1);
    }

    private static void secondFindsClaimed() {
        ChoiceBench x = new ChoiceBench(3);
        Due.single(x, 1, Due.SEND, 0, 8);
        x.step(1);
        Due.single(x, 0, Due.RECEIVE, 0, 0);
        Due.until(x, 0, Due.SECOND);
        Due.single(x, 2, Due.RECEIVE, 0, 0);
        Due.until(x, 2, Due.SECOND);
        Due.is("1 by", x.word(1, 2), 2);
        Due.is("SECOND", x.step(0), 0);
        Due.phase("1 is CLAIMED", x, 0, Due.BACK);
        Due.is("it still has its own", x.word(0, 2), 0);
        Due.is("1 by", x.word(1, 2), 2);
        Due.is("BACK", x.step(0), 0);
        Due.is("given back", x.word(0, 0), Due.WAITING);
        Due.is("nobody's", x.word(0, 2), ChoiceBench.NONE);
        Due.phase("LOOK goes on", x, 0, Due.LOOK);
        // Its own, the one of 2, none.
        Due.steps(x, 0, 3);
        Due.phase("all", x, 0, Due.END);
        Due.is("BUSY", x.step(0), 0);
        Due.phase("again", x, 0, Due.LOOK);
        Due.is("no PAIR", x.count(2), 0);
    }

    private static void secondFindsOtherVersion() {
        ChoiceBench x = new ChoiceBench(2);
        Due.single(x, 1, Due.SEND, 0, 8);
        x.step(1);
        Due.single(x, 0, Due.RECEIVE, 0, 0);
        Due.until(x, 0, Due.SECOND);
        Due.yes("cancel(1)", x.cancel(1));
        Due.is("WITHDRAW", x.step(1), 5);
        x.finish(1);
        Due.single(x, 1, Due.SEND, 0, 9);
        Due.is("SECOND", x.step(0), 0);
        Due.phase("another VERSION", x, 0, Due.BACK);
        Due.is("1 stays", x.word(1, 0), Due.WAITING);
        x.step(0);
        Due.is("given back", x.word(0, 0), Due.WAITING);
        Due.phase("LOOK goes on", x, 0, Due.LOOK);
        Due.steps(x, 0, 2);
        Due.is("not BUSY", x.step(0), 1);
        // 1 finds the sleeper.
        Due.until(x, 1, Due.DONE);
        Due.is("met", x.step(1), 2);
        Due.is("VERSION of 1", x.pair(0, 5), 2);
    }

    /** 2 holds the WORD of 0, in SECOND; 3 holds that of 2, in SECOND. */
    private static ChoiceBench chain() {
        ChoiceBench x = new ChoiceBench(4);
        Due.single(x, 0, Due.SEND, 0, 50);
        Due.until(x, 0, Due.ASLEEP);
        x.spawn(2);
        x.guard(2, Due.RECEIVE, 0, 0, true);
        x.guard(2, Due.SEND, 1, 60, true);
        x.timeout(2, 5);
        x.offer(2);
        Due.until(x, 2, Due.SECOND);
        Due.single(x, 3, Due.RECEIVE, 1, 0);
        Due.until(x, 3, Due.SECOND);
        Due.is("0 by", x.word(0, 2), 2);
        Due.is("2 by", x.word(2, 2), 3);
        return x;
    }

    private static void secondFindsOwnClaimed() {
        ChoiceBench x = chain();
        Due.is("SECOND", x.step(2), 0);
        Due.phase("its own is CLAIMED", x, 2, Due.BACK);
        Due.is("BACK", x.step(2), 0);
        Due.phase("LOOK goes on", x, 2, Due.LOOK);
        Due.is("0 is given back", x.word(0, 0), Due.WAITING);
        Due.is("2 by", x.word(2, 2), 3);
        // CHANNEL 0: its own, none; CHANNEL 1: its own, the one of 3.
        Due.steps(x, 2, 4);
        Due.phase("3 receives", x, 2, Due.CLAIM);
        x.step(2);
        Due.phase("its own is CLAIMED still", x, 2, Due.LOOK);
        x.step(2);
        Due.phase("all", x, 2, Due.END);
        x.step(2);
        Due.phase("BUSY", x, 2, Due.LOOK);
    }

    private static void secondFindsOwnTaken() {
        ChoiceBench x = chain();
        x.step(3);
        x.step(3);
        Due.is("TAKEN", x.word(2, 0), Due.TAKEN);
        Due.is("SECOND", x.step(2), 0);
        Due.phase("its own is TAKEN", x, 2, Due.BACK);
        Due.is("0 by", x.word(0, 2), 2);
        Due.is("BACK", x.step(2), 0);
        Due.is("0 is given back", x.word(0, 0), Due.WAITING);
        Due.phase("TAKEN", x, 2, Due.WITHDRAW);
        Due.is("its first ENTRY", x.step(2), 0);
        Due.is("its second ENTRY", x.step(2), 2);
        Due.is("2 met", x.outcome(2, 0), 3);
    }

    private static void backLooksAtWhatSecondFound() {
        ChoiceBench x = chain();
        x.step(2);
        Due.phase("its own was CLAIMED", x, 2, Due.BACK);
        x.step(3);
        x.step(3);
        Due.is("now it is TAKEN", x.word(2, 0), Due.TAKEN);
        Due.is("BACK", x.step(2), 0);
        Due.phase("LOOK goes on", x, 2, Due.LOOK);
        Due.is("still TAKEN", x.word(2, 0), Due.TAKEN);
    }

    private static void endAndSleepFindTaken() {
        ChoiceBench x = new ChoiceBench(2);
        Due.single(x, 0, Due.SEND, 0, 1);
        Due.until(x, 0, Due.END);
        Due.single(x, 1, Due.RECEIVE, 0, 0);
        Due.until(x, 1, Due.OWN);
        Due.is("TAKEN", x.word(0, 0), Due.TAKEN);
        Due.is("END", x.step(0), 0);
        Due.phase("END found it", x, 0, Due.WITHDRAW);

        ChoiceBench y = new ChoiceBench(2);
        Due.single(y, 0, Due.SEND, 0, 1);
        Due.until(y, 0, Due.END);
        Due.single(y, 1, Due.RECEIVE, 0, 0);
        Due.until(y, 1, Due.TELL);
        Due.is("CLAIMED", y.word(0, 0), Due.CLAIMED);
        Due.is("END: not BUSY, so it sleeps", y.step(0), 1);
        Due.is("CLAIMED: it stays ASLEEP", y.step(0), 1);
        y.step(1);
        Due.is("TAKEN", y.step(0), 0);
        Due.phase("ASLEEP found it", y, 0, Due.WITHDRAW);
    }

    private static void withdrawInOrder() {
        ChoiceBench x = new ChoiceBench(2);
        x.spawn(0);
        int[] channels = {5, 2, 5, 0};
        for (int channel : channels) {
            x.guard(0, Due.SEND, channel, channel, true);
        }
        x.offer(0);
        Due.until(x, 0, Due.ASLEEP);
        Due.yes("cancel", x.cancel(0));
        Due.is("all are there", x.count(5), 4);
        Due.is("first", x.step(0), 0);
        Due.is("CHANNEL 5 lost its first", x.entry(5, 0, 3), 3);
        Due.is("one is left there", x.entry(5, 1, 3), ChoiceBench.NONE);
        Due.is("CHANNEL 2 did not", x.entry(2, 0, 3), 2);
        Due.is("second", x.step(0), 0);
        Due.is("CHANNEL 2 lost it", x.entry(2, 0, 3), ChoiceBench.NONE);
        Due.is("third", x.step(0), 0);
        Due.is("CHANNEL 5 lost both", x.entry(5, 0, 3), ChoiceBench.NONE);
        Due.is("CHANNEL 0 did not", x.entry(0, 0, 3), 4);
        Due.phase("one is left", x, 0, Due.WITHDRAW);
        Due.is("last", x.step(0), 5);
        Due.is("none", x.count(5), 0);
        Due.is("published all the same", x.count(6), 4);
    }

    private static ChoiceBench twoGuardsDueAtOne() {
        ChoiceBench x = new ChoiceBench(3);
        x.spawn(0);
        x.guard(0, Due.SEND, 0, 1, true);
        x.guard(0, Due.SEND, 1, 2, true);
        x.timeout(0, 1);
        x.offer(0);
        return x;
    }

    private static void timeInPublish() {
        ChoiceBench x = twoGuardsDueAtOne();
        x.tick();
        Due.is("nothing is published: DONE at once", x.step(0), 3);
        Due.phase("DONE", x, 0, Due.DONE);
        Due.is("OUT", x.word(0, 0), Due.OUT);
        Due.is("one STEP", x.count(4), 1);
        Due.is("nothing was published", x.count(6), 0);
        Due.is("DONE", x.step(0), 3);

        ChoiceBench y = twoGuardsDueAtOne();
        y.step(0);
        y.tick();
        Due.is("one is published", y.step(0), 0);
        Due.phase("it goes", y, 0, Due.WITHDRAW);
        Due.is("no second one came", y.count(6), 1);
        Due.is("DONE", y.step(0), 3);
    }

    private static void timeInLookEndAndSleep() {
        int[] phases = {Due.LOOK, Due.END, Due.ASLEEP};
        for (int phase : phases) {
            ChoiceBench x = twoGuardsDueAtOne();
            Due.until(x, 0, phase);
            x.tick();
            Due.is("DUE in " + phase, x.step(0), 0);
            Due.phase("DUE in " + phase, x, 0, Due.WITHDRAW);
            Due.is("OUT", x.word(0, 0), Due.OUT);
            x.tick();
            Due.is("one ENTRY", x.step(0), 0);
            Due.is("two ENTRIES", x.step(0), 3);
        }
    }

    private static void timeIsNotHeededWhileClaiming() {
        int[] phases = {Due.CLAIM, Due.SECOND, Due.TELL, Due.OWN};
        for (int phase : phases) {
            ChoiceBench x = twoGuardsDueAtOne();
            Due.single(x, 1, Due.RECEIVE, 1, 0);
            x.step(1);
            Due.until(x, 0, phase);
            x.tick();
            Due.until(x, 0, Due.OWN);
            Due.is("OWN", x.step(0), 0);
            Due.is("WITHDRAW", x.step(0), 0);
            Due.is("COMMITTED, though DUE", x.step(0), 2);
        }
        ChoiceBench y = chain();
        y.step(2);
        Due.phase("DUE in BACK", y, 2, Due.BACK);
        for (int i = 0; i < 5; i++) {
            y.tick();
        }
        y.step(2);
        Due.is("given back", y.word(0, 0), Due.WAITING);
        Due.phase("LOOK goes on", y, 2, Due.LOOK);
    }

    private static void timeFindsClaimedAndTaken() {
        int[] phases = {Due.LOOK, Due.END, Due.ASLEEP};
        for (int phase : phases) {
            ChoiceBench x = twoGuardsDueAtOne();
            Due.until(x, 0, phase);
            Due.single(x, 1, Due.RECEIVE, 1, 0);
            Due.until(x, 1, Due.SECOND);
            x.tick();
            Due.is("CLAIMED", x.step(0), phase == Due.ASLEEP ? 1 : 0);
            Due.phase("it stays", x, 0, phase);
            Due.is("CLAIMED still", x.word(0, 2), 1);
            Due.until(x, 1, Due.OWN);
            Due.is("TAKEN", x.step(0), 0);
            Due.phase("TAKEN", x, 0, Due.WITHDRAW);
            x.step(0);
            Due.is("COMMITTED", x.step(0), 2);
        }
        ChoiceBench y = twoGuardsDueAtOne();
        y.step(0);
        Due.single(y, 1, Due.RECEIVE, 0, 0);
        Due.until(y, 1, Due.TELL);
        y.tick();
        Due.is("CLAIMED in PUBLISH", y.step(0), 0);
        Due.phase("it stays", y, 0, Due.PUBLISH);
        Due.is("nothing more is published", y.count(6), 2);
        y.step(1);
        Due.is("TAKEN in PUBLISH", y.step(0), 0);
        Due.phase("TAKEN", y, 0, Due.WITHDRAW);
        Due.is("COMMITTED", y.step(0), 2);
    }

    private static void cancelRefused() {
        ChoiceBench x = zeroHeldByOne();
        Due.no("cancel(-1)", x.cancel(-1));
        Due.no("cancel(3)", x.cancel(3));
        Due.no("cancel of a GONE one", x.cancel(2));
        x.spawn(2);
        Due.no("cancel of an IDLE one", x.cancel(2));
        Due.no("cancel of a CLAIMED one", x.cancel(0));
        Due.is("it stays CLAIMED", x.word(0, 2), 1);
        Due.phase("it stays ASLEEP", x, 0, Due.ASLEEP);
        x.step(1);
        Due.no("cancel in TELL", x.cancel(1));
        x.step(1);
        Due.no("cancel in OWN", x.cancel(1));
        Due.no("cancel of a TAKEN one", x.cancel(0));
        x.step(1);
        Due.no("cancel in WITHDRAW", x.cancel(1));
        x.step(1);
        Due.no("cancel of a DONE one", x.cancel(1));
        Due.is("it is COMMITTED", x.step(1), 2);
    }

    private static void cancelInEachPhase() {
        int[] phases = {Due.PUBLISH, Due.LOOK, Due.CLAIM, Due.END, Due.ASLEEP};
        for (int phase : phases) {
            ChoiceBench x = new ChoiceBench(2);
            if (phase == Due.CLAIM) {
                Due.single(x, 1, Due.SEND, 1, 0);
                x.step(1);
            }
            x.spawn(0);
            x.guard(0, Due.RECEIVE, 0, 1, true);
            x.guard(0, Due.RECEIVE, 1, 2, true);
            x.offer(0);
            x.step(0);
            Due.until(x, 0, phase);
            int stepsBefore = x.count(4);
            Due.yes("cancel in " + phase, x.cancel(0));
            Due.is("OUT", x.word(0, 0), Due.OUT);
            Due.phase("cancel in " + phase, x, 0, Due.WITHDRAW);
            Due.no("cancel again", x.cancel(0));
            Due.is("a cancel is no STEP", x.count(4), stepsBefore);
            if (phase != Due.PUBLISH) {
                Due.is("WITHDRAW", x.step(0), 0);
            }
            Due.is("taken back", x.step(0), 5);
            Due.is("taken back", x.step(0), 5);
        }
        ChoiceBench y = new ChoiceBench(2);
        Due.single(y, 0, Due.SEND, 0, 1);
        Due.yes("cancel before anything is published", y.cancel(0));
        Due.phase("DONE at once", y, 0, Due.DONE);
        Due.is("taken back", y.step(0), 5);
        Due.is("no STEP", y.count(4), 0);
    }

    private static void cancelInSecond() {
        ChoiceBench x = zeroHeldByOne();
        Due.yes("cancel in SECOND", x.cancel(1));
        Due.is("OUT", x.word(1, 0), Due.OUT);
        Due.phase("it goes on", x, 1, Due.SECOND);
        Due.no("cancel again", x.cancel(1));
        Due.is("SECOND", x.step(1), 0);
        Due.phase("its own is OUT", x, 1, Due.BACK);
        Due.is("BACK", x.step(1), 0);
        Due.is("0 is given back", x.word(0, 0), Due.WAITING);
        Due.phase("OUT", x, 1, Due.WITHDRAW);
        Due.is("taken back", x.step(1), 5);
        Due.is("no PAIR", x.count(2), 0);

        ChoiceBench y = senderAsleep(2);
        Due.single(y, 0, Due.RECEIVE, 3, 0);
        Due.until(y, 0, Due.SECOND);
        Due.no("the lower one CLAIMED its own", y.cancel(0));
    }

    /** 2 is in BACK, its own WORD was CLAIMED by 3 but is WAITING now. */
    private static ChoiceBench waitingInBack() {
        ChoiceBench x = chain();
        x.step(2);
        Due.phase("2", x, 2, Due.BACK);
        Due.no("CLAIMED by 3", x.cancel(2));
        Due.yes("cancel(3)", x.cancel(3));
        x.step(3);
        x.step(3);
        Due.is("WAITING", x.word(2, 0), Due.WAITING);
        return x;
    }

    private static void cancelInBack() {
        ChoiceBench x = waitingInBack();
        Due.yes("cancel in BACK", x.cancel(2));
        Due.phase("it goes on", x, 2, Due.BACK);
        Due.is("BACK", x.step(2), 0);
        Due.is("0 is given back", x.word(0, 0), Due.WAITING);
        Due.phase("it was not OUT in SECOND", x, 2, Due.LOOK);
        Due.steps(x, 2, 4);
        Due.phase("3 receives", x, 2, Due.CLAIM);
        Due.is("CLAIM", x.step(2), 0);
        Due.phase("its own is OUT", x, 2, Due.WITHDRAW);
        x.step(2);
        Due.is("taken back", x.step(2), 5);

        ChoiceBench y = waitingInBack();
        Due.is("3 withdraws", y.step(3), 5);
        Due.yes("cancel in BACK", y.cancel(2));
        y.step(2);
        Due.steps(y, 2, 4);
        Due.phase("all", y, 2, Due.END);
        Due.is("END", y.step(2), 0);
        Due.phase("OUT, though BUSY", y, 2, Due.WITHDRAW);
    }

    /** The document lets only WAITING and TAKEN go on there; what is OUT already stays. */
    private static void cancelInBackWhenDue() {
        ChoiceBench x = waitingInBack();
        Due.yes("cancel in BACK", x.cancel(2));
        x.step(2);
        Due.phase("OUT", x, 2, Due.LOOK);
        for (int i = 0; i < 5; i++) {
            x.tick();
        }
        for (int i = 0; i < 10; i++) {
            Due.is("DUE and OUT", x.step(2), 0);
            Due.phase("it stays", x, 2, Due.LOOK);
        }
    }

    private static ChoiceBench crowd(int processes) {
        ChoiceBench x = new ChoiceBench(processes);
        for (int p = 0; p < processes; p++) {
            x.spawn(p);
            x.guard(p, p % 2, p % 3, 100 + p, true);
            x.guard(p, (p / 2) % 2, 3, 200 + p, true);
            x.offer(p);
        }
        return x;
    }

    private static void runIsSteps() {
        int[] seeds = {0, 1, -1, 5, 123456789, -987654321, Integer.MIN_VALUE, Integer.MAX_VALUE};
        for (int processes = 2; processes <= 16; processes++) {
            for (int seed : seeds) {
                ChoiceBench x = crowd(processes);
                ChoiceBench y = crowd(processes);
                Due.is("run(40, " + seed + ")", x.run(40, seed), stepAll(y, processes, 40, seed));
                Due.is("run(90, " + seed + ")", x.run(90, seed), stepAll(y, processes, 90, seed));
                for (int p = 0; p < processes; p++) {
                    Due.is("phase(" + p + ")", x.phase(p), y.phase(p));
                    Due.is("word(" + p + ", 0)", x.word(p, 0), y.word(p, 0));
                    Due.is("outcome(" + p + ", 2)", x.outcome(p, 2), y.outcome(p, 2));
                }
                for (int what = 0; what <= 8; what++) {
                    Due.is("count(" + what + ")", x.count(what), y.count(what));
                }
            }
        }
    }

    private static int stepAll(ChoiceBench y, int processes, int n, int from) {
        int before = y.count(2);
        long seed = from;
        for (int i = 0; i < n; i++) {
            seed = (seed * 1103515245L + 12345L) & 0xffffffffL;
            y.step((int) ((seed >> 16) % processes));
        }
        return y.count(2) - before;
    }
}
