/**
 * The edges that promise 7 and the STEPS under 'Terms' name: a test for each of them. Those from CLAIM to
 * OWN are in MeetEdgesTest.
 */
public final class StepEdgesTest {
    private static final int NONE = ChoiceBench.NONE;

    public static void main(String[] args) {
        answers();
        due();
        publish();
        look();
        end();
        asleep();
        withdraw();
        Due.end();
    }

    private static void answers() {
        Due.each(
                StepEdgesTest::stepOfNoProcess,
                StepEdgesTest::stepOfAGoneOne,
                StepEdgesTest::stepOfAnIdleOne,
                StepEdgesTest::stepOfACommittedOne,
                StepEdgesTest::stepOfOneOverByTime,
                StepEdgesTest::stepOfOneTakenBack,
                StepEdgesTest::stepIntoSleepAndOutOfIt);
    }

    private static void stepOfNoProcess() {
        Due.sentence(7, "NONE of others: no PROCESS");
        Scene.refusedOfNoProcess("step", (x, p) -> x.step(p) != NONE, Due.LOOK);
    }

    private static void stepOfAGoneOne() {
        Due.sentence(7, "NONE of others: a GONE one");
        ChoiceBench x = Scene.oneIn(Due.GONE);
        Due.is("step(1)", x.step(1), NONE);
        Scene.goesOnAs("step(1)", x, Scene.oneIn(Due.GONE));
    }

    private static void stepOfAnIdleOne() {
        Due.sentence(7, "of an IDLE one 4");
        ChoiceBench x = Scene.oneIn(Due.IDLE);
        Due.is("step(1)", x.step(1), 4);
        Scene.goesOnAs("step(1)", x, Scene.oneIn(Due.IDLE));
    }

    private static void staysDone(ChoiceBench x, int p, int how) {
        int before = x.count(4);
        for (int i = 0; i < 3; i++) {
            Due.is("step(" + p + ") of a DONE one", x.step(p), how);
            Due.phase("DONE", x, p, Due.DONE);
        }
        Due.is("count(4)", x.count(4), before);
    }

    private static void stepOfACommittedOne() {
        Due.sentence(7, "Of one that was DONE already the same, without a STEP: 2");
        ChoiceBench x = Scene.oneIn(Due.WITHDRAW);
        x.step(1);
        Due.is("step(1)", x.step(1), 2);
        staysDone(x, 1, 2);
        x.step(0);
        Due.is("step(0), which was found", x.step(0), 2);
        staysDone(x, 0, 2);
    }

    private static void stepOfOneOverByTime() {
        Due.sentence(7, "Of one that was DONE already the same, without a STEP: 3");
        ChoiceBench x = Scene.oneIn(Due.ASLEEP);
        Scene.ticks(x, 4);
        Due.steps(x, 1, 2);
        Due.is("step(1)", x.step(1), 3);
        staysDone(x, 1, 3);
    }

    private static void stepOfOneTakenBack() {
        Due.sentence(7, "Of one that was DONE already the same, without a STEP: 5");
        ChoiceBench x = Scene.oneIn(Due.ASLEEP);
        x.cancel(1);
        x.step(1);
        Due.is("step(1)", x.step(1), 5);
        Scene.ticks(x, 4);
        staysDone(x, 1, 5);
    }

    private static void stepIntoSleepAndOutOfIt() {
        Due.sentence(7, "0 it goes on, 1 it is ASLEEP");
        ChoiceBench x = new ChoiceBench(2);
        Due.single(x, 0, Due.SEND, 0, 5);
        Due.is("step(0) in PUBLISH", x.step(0), 0);
        Due.is("step(0) in LOOK", x.step(0), 0);
        Due.is("step(0) in LOOK", x.step(0), 0);
        Due.is("step(0) in END", x.step(0), 1);
        Due.is("step(0) in ASLEEP", x.step(0), 1);
        Due.single(x, 1, Due.RECEIVE, 0, 0);
        Due.until(x, 1, Due.OWN);
        Due.is("step(0) in ASLEEP, TAKEN", x.step(0), 0);
    }

    private static void due() {
        Due.each(
                StepEdgesTest::dueOneTooEarly,
                StepEdgesTest::dueWhenWaiting,
                StepEdgesTest::dueWhenPassed,
                StepEdgesTest::dueWhenTaken,
                StepEdgesTest::dueWhenClaimed,
                StepEdgesTest::dueWhenOut,
                StepEdgesTest::dueWhileItClaims,
                StepEdgesTest::dueWhileItWithdraws,
                StepEdgesTest::dueIsAStep);
    }

    private static void dueOneTooEarly() {
        Due.sentence(7, "If p is DUE (the CLOCK has come to it): one before it");
        int[] next = {Due.PUBLISH, Due.LOOK, Due.ASLEEP, Due.ASLEEP};
        for (int i = 0; i < next.length; i++) {
            ChoiceBench x = Scene.oneIn(Scene.HEEDS_TIME[i]);
            Scene.ticks(x, 3);
            x.step(1);
            Due.phase("CLOCK 3, DUE at 4", x, 1, next[i]);
            Due.is("word(1, 0)", x.word(1, 0), Due.WAITING);
        }
    }

    private static void overByTime(int phase, int clock) {
        ChoiceBench x = Scene.oneIn(phase);
        Scene.ticks(x, clock);
        boolean none = phase == Due.PUBLISH;
        Due.is("step(1) in PHASE " + phase + " at CLOCK " + clock, x.step(1), none ? 3 : 0);
        Due.is("word(1, 0)", x.word(1, 0), Due.OUT);
        Due.phase("behind PHASE " + phase, x, 1, none ? Due.DONE : Due.WITHDRAW);
        Due.until(x, 1, Due.DONE);
        Due.is("step(1)", x.step(1), 3);
        Due.is("count(5)", x.count(5), 0);
    }

    private static void dueWhenWaiting() {
        Due.sentence(7, "in PUBLISH, LOOK, END or ASLEEP .. its WORD, if it is WAITING, is OUT");
        for (int phase : Scene.HEEDS_TIME) {
            overByTime(phase, 4);
        }
    }

    private static void dueWhenPassed() {
        Due.sentence(7, "If p is DUE (the CLOCK has come to it): and has passed it");
        for (int phase : Scene.HEEDS_TIME) {
            overByTime(phase, 5);
            overByTime(phase, 100);
        }
    }

    private static void dueWhenTaken() {
        Due.sentence(7, "if it is TAKEN: WITHDRAW");
        for (int phase : Scene.HEEDS_TIME) {
            ChoiceBench x = Scene.oneHeldIn(phase);
            Scene.twoTakesOne(x);
            Scene.ticks(x, 4);
            Due.is("step(1) in PHASE " + phase, x.step(1), 0);
            Due.phase("behind PHASE " + phase, x, 1, Due.WITHDRAW);
            Due.is("word(1, 0)", x.word(1, 0), Due.TAKEN);
            Due.until(x, 1, Due.DONE);
            Due.is("step(1)", x.step(1), 2);
        }
    }

    private static void dueWhenClaimed() {
        Due.sentence(7, "else p stays in its PHASE: CLAIMED");
        for (int phase : Scene.HEEDS_TIME) {
            ChoiceBench x = Scene.oneHeldIn(phase);
            int published = x.count(6);
            Scene.ticks(x, 4);
            for (int i = 0; i < 4; i++) {
                Due.is("step(1)", x.step(1), phase == Due.ASLEEP ? 1 : 0);
                Due.phase("DUE and CLAIMED", x, 1, phase);
            }
            Due.is("word(1, 2)", x.word(1, 2), 2);
            Due.is("count(6)", x.count(6), published);
            Scene.twoGivesOneBack(x);
            x.step(1);
            Due.is("word(1, 0) when it was given back", x.word(1, 0), Due.OUT);
            Due.until(x, 1, Due.DONE);
            Due.is("step(1)", x.step(1), 3);
        }
    }

    private static void dueWhenOut() {
        Due.sentence(7, "else p stays in its PHASE: OUT");
        for (int phase : new int[] {Due.LOOK, Due.END}) {
            ChoiceBench x = Scene.oneOutInLook();
            Due.until(x, 1, phase);
            Scene.ticks(x, 4);
            for (int i = 0; i < 4; i++) {
                Due.is("step(1)", x.step(1), 0);
                Due.phase("DUE and OUT", x, 1, phase);
            }
            Due.is("word(1, 0)", x.word(1, 0), Due.OUT);
        }
    }

    private static void dueWhileItClaims() {
        Due.sentence(7, "If p is DUE .. and in PUBLISH, LOOK, END or ASLEEP: not from CLAIM to OWN");
        int[] phases = {Due.CLAIM, Due.SECOND, Due.BACK, Due.TELL, Due.OWN};
        int[] next = {Due.SECOND, Due.TELL, Due.LOOK, Due.OWN, Due.WITHDRAW};
        for (int i = 0; i < phases.length; i++) {
            ChoiceBench x = Scene.oneIn(phases[i]);
            int kind = x.word(1, 0);
            Scene.ticks(x, 4);
            Due.is("step(1) in PHASE " + phases[i], x.step(1), 0);
            Due.phase("behind PHASE " + phases[i], x, 1, next[i]);
            Due.no("OUT, was " + kind, x.word(1, 0) == Due.OUT);
        }
    }

    private static void dueWhileItWithdraws() {
        Due.sentence(7, "If p is DUE .. and in PUBLISH, LOOK, END or ASLEEP: not in WITHDRAW");
        ChoiceBench x = Scene.oneIn(Due.WITHDRAW);
        Scene.ticks(x, 4);
        Due.is("step(1), COMMITTED", x.step(1), 0);
        Due.is("step(1), COMMITTED", x.step(1), 2);
        ChoiceBench y = Scene.oneIn(Due.ASLEEP);
        y.cancel(1);
        Scene.ticks(y, 4);
        Due.is("step(1), taken back", y.step(1), 0);
        Due.is("step(1), taken back", y.step(1), 5);
    }

    private static void dueIsAStep() {
        Due.sentence(7, "the access is this instead: one STEP, and nothing else");
        for (int phase : Scene.HEEDS_TIME) {
            ChoiceBench x = Scene.oneIn(phase);
            int steps = x.count(4);
            int published = x.count(6);
            Scene.ticks(x, 4);
            x.step(1);
            Due.is("count(4)", x.count(4), steps + 1);
            Due.is("count(5)", x.count(5), published);
            Due.is("count(6)", x.count(6), published);
        }
    }

    private static void publish() {
        Due.each(
                StepEdgesTest::publishAtTheEndOfItsList,
                StepEdgesTest::publishCountsOverAllChannels,
                StepEdgesTest::publishNextThatIsOn,
                StepEdgesTest::publishBehindTheLast,
                StepEdgesTest::publishWhenClaimedOrTaken);
    }

    private static void publishAtTheEndOfItsList() {
        Due.sentence(7, "an ENTRY of the GUARD comes to the end of its CHANNEL's LIST");
        ChoiceBench x = new ChoiceBench(3);
        for (int p = 2; p >= 0; p--) {
            Due.single(x, p, Due.SEND, 4, 40 + p);
            Due.is("step(" + p + ")", x.step(p), 0);
        }
        for (int i = 0; i < 3; i++) {
            Due.is("entry(4, " + i + ", 0)", x.entry(4, i, 0), 2 - i);
        }
        x.cancel(2);
        x.step(2);
        x.finish(2);
        Due.single(x, 2, Due.RECEIVE, 4, 9);
        x.step(2);
        Due.is("entry(4, 2, 0) when it came anew", x.entry(4, 2, 0), 2);
        Due.is("entry(4, 2, 4)", x.entry(4, 2, 4), 2);
    }

    private static void publishCountsOverAllChannels() {
        Due.sentence(7, "each has a NUMBER, 1, 2, .. as they are published (on whatever CHANNEL)");
        ChoiceBench x = new ChoiceBench(2);
        for (int p = 0; p < 2; p++) {
            x.spawn(p);
            x.guard(p, Due.SEND, 7 - p, 0, true);
            x.guard(p, Due.SEND, p, 0, true);
            x.offer(p);
        }
        for (int i = 0; i < 4; i++) {
            x.step(i % 2);
        }
        Due.is("entry(7, 0, 3)", x.entry(7, 0, 3), 1);
        Due.is("entry(6, 0, 3)", x.entry(6, 0, 3), 2);
        Due.is("entry(0, 0, 3)", x.entry(0, 0, 3), 3);
        Due.is("entry(1, 0, 3)", x.entry(1, 0, 3), 4);
        x.cancel(1);
        Due.until(x, 1, Due.DONE);
        x.finish(1);
        Due.single(x, 1, Due.SEND, 1, 0);
        x.step(1);
        Due.is("entry(1, 0, 3) when two went", x.entry(1, 0, 3), 5);
    }

    private static ChoiceBench withGuardsOn(boolean... on) {
        ChoiceBench x = new ChoiceBench(3);
        x.spawn(1);
        for (int i = 0; i < on.length; i++) {
            x.guard(1, Due.RECEIVE, i, 0, on[i]);
        }
        x.offer(1);
        return x;
    }

    private static void publishNextThatIsOn() {
        Due.sentence(7, "Then PUBLISH at the next GUARD that is ON");
        ChoiceBench x = withGuardsOn(true, false, false, true, false, true);
        x.step(1);
        Due.phase("one is published", x, 1, Due.PUBLISH);
        x.step(1);
        Due.is("entry(3, 0, 3)", x.entry(3, 0, 3), 2);
        Due.phase("two are published", x, 1, Due.PUBLISH);
        x.step(1);
        Due.is("entry(5, 0, 3)", x.entry(5, 0, 3), 3);
        Due.is("count(6)", x.count(6), 3);
    }

    private static void publishBehindTheLast() {
        Due.sentence(7, "behind the last one LOOK at the first one that is ON, from 0 on");
        ChoiceBench x = new ChoiceBench(3);
        // On CHANNEL 0 stands what a GUARD that is not ON would find, on CHANNEL 1 what the first finds.
        for (int p = 0; p < 3; p += 2) {
            Due.single(x, p, Due.SEND, p / 2, 70 + p);
            x.step(p);
        }
        x.spawn(1);
        x.guard(1, Due.RECEIVE, 0, 0, false);
        x.guard(1, Due.RECEIVE, 1, 0, true);
        x.guard(1, Due.RECEIVE, 5, 0, true);
        x.guard(1, Due.RECEIVE, 0, 0, false);
        x.offer(1);
        Due.steps(x, 1, 2);
        Due.phase("behind the last that is ON", x, 1, Due.LOOK);
        Due.is("step(1)", x.step(1), 0);
        Due.phase("at the first that is ON", x, 1, Due.CLAIM);
        Due.until(x, 1, Due.TELL);
        Due.is("pair(0, 1)", x.pair(0, 1), 2);
    }

    private static void publishWhenClaimedOrTaken() {
        Due.sentence(7, "PUBLISH: whatever its WORD is, if it is not DUE");
        ChoiceBench x = Scene.oneHeldIn(Due.PUBLISH);
        x.step(1);
        Due.is("entry(0, 0, 0), CLAIMED", x.entry(0, 0, 0), 1);
        Due.phase("CLAIMED", x, 1, Due.LOOK);
        ChoiceBench y = Scene.oneHeldIn(Due.PUBLISH);
        Scene.twoTakesOne(y);
        y.step(1);
        Due.is("entry(0, 0, 0), TAKEN", y.entry(0, 0, 0), 1);
        Due.phase("TAKEN", y, 1, Due.LOOK);
    }

    private static void look() {
        Due.each(
                StepEdgesTest::lookPassesItsOwn,
                StepEdgesTest::lookPassesTheSameKind,
                StepEdgesTest::lookAboveItsNumber,
                StepEdgesTest::lookAtNextFromZeroOn,
                StepEdgesTest::lookBehindTheLast,
                StepEdgesTest::lookFindsNoneThatWent,
                StepEdgesTest::lookFindsOneThatCame);
    }

    private static void lookPassesItsOwn() {
        Due.sentence(7, "if it is of another PROCESS q");
        ChoiceBench x = new ChoiceBench(2);
        x.spawn(0);
        x.guard(0, Due.SEND, 0, 1, true);
        x.guard(0, Due.RECEIVE, 0, 2, true);
        x.offer(0);
        Due.until(x, 0, Due.LOOK);
        for (int i = 0; i < 6; i++) {
            Due.phase("LOOK " + i, x, 0, Due.LOOK);
            x.step(0);
        }
        Due.phase("twice two of its own, twice none", x, 0, Due.END);
        Due.is("count(7)", x.count(7), 0);
    }

    private static void lookPassesTheSameKind() {
        Due.sentence(7, "and of the other kind, CLAIM follows");
        for (int kind = 0; kind <= 1; kind++) {
            ChoiceBench x = new ChoiceBench(3);
            Due.single(x, 0, kind, 0, 1);
            x.step(0);
            Due.single(x, 1, 1 - kind, 0, 1);
            x.step(1);
            Due.single(x, 2, kind, 0, 2);
            x.step(2);
            x.step(2);
            Due.phase("0 is of the same kind", x, 2, Due.LOOK);
            x.step(2);
            Due.phase("1 is of the other kind", x, 2, Due.CLAIM);
            Due.is("count(7)", x.count(7), 0);
        }
    }

    private static void lookAboveItsNumber() {
        Due.sentence(7, "the first ENTRY of its CHANNEL's LIST with a NUMBER above x is read");
        ChoiceBench x = new ChoiceBench(4);
        for (int p = 0; p < 3; p++) {
            Due.single(x, p, Due.SEND, 0, p);
            x.step(p);
        }
        Due.single(x, 3, Due.RECEIVE, 0, 0);
        x.step(3);
        for (int p = 0; p < 2; p++) {
            x.step(3);
            Due.phase("found " + p, x, 3, Due.CLAIM);
            x.cancel(p);
            x.step(3);
            Due.is("word(" + p + ", 0)", x.word(p, 0), Due.OUT);
            Due.phase("LOOK goes on", x, 3, Due.LOOK);
        }
        x.step(3);
        Due.phase("found 2", x, 3, Due.CLAIM);
        x.step(3);
        Due.is("word(2, 2)", x.word(2, 2), 3);
    }

    private static void lookAtNextFromZeroOn() {
        Due.sentence(7, "If there is none: LOOK at the next GUARD that is ON, from 0 on");
        ChoiceBench x = new ChoiceBench(3);
        // The NUMBER on CHANNEL 1 is below all that LOOK has seen on CHANNEL 0.
        Due.single(x, 0, Due.SEND, 1, 71);
        x.step(0);
        Due.single(x, 2, Due.SEND, 2, 72);
        x.step(2);
        x.spawn(1);
        x.guard(1, Due.RECEIVE, 0, 0, true);
        x.guard(1, Due.RECEIVE, 2, 0, false);
        x.guard(1, Due.RECEIVE, 1, 0, true);
        x.offer(1);
        Due.steps(x, 1, 2);
        x.step(1);
        Due.phase("its own", x, 1, Due.LOOK);
        x.step(1);
        Due.phase("none", x, 1, Due.LOOK);
        x.step(1);
        Due.phase("the first of the next one", x, 1, Due.CLAIM);
        x.step(1);
        Due.is("word(0, 2)", x.word(0, 2), 1);
    }

    private static void lookBehindTheLast() {
        Due.sentence(7, "behind the last one END");
        ChoiceBench x = withGuardsOn(false, true, false, true, false);
        Due.until(x, 1, Due.LOOK);
        Due.steps(x, 1, 3);
        Due.phase("one is left to read", x, 1, Due.LOOK);
        x.step(1);
        Due.phase("none is left", x, 1, Due.END);
        ChoiceBench y = withGuardsOn(true, true, true, true, true, true, true, true);
        Due.steps(y, 1, 8 + 15);
        Due.phase("eight GUARDS", y, 1, Due.LOOK);
        y.step(1);
        Due.phase("behind all eight", y, 1, Due.END);
    }

    private static void lookFindsNoneThatWent() {
        Due.sentence(7, "LOOK: an ENTRY that went before is not read");
        ChoiceBench x = new ChoiceBench(3);
        Due.single(x, 0, Due.SEND, 0, 70);
        x.step(0);
        Due.single(x, 1, Due.RECEIVE, 0, 0);
        x.step(1);
        x.cancel(0);
        x.step(0);
        x.step(1);
        Due.phase("its own", x, 1, Due.LOOK);
        x.step(1);
        Due.phase("none", x, 1, Due.END);
    }

    private static void lookFindsOneThatCame() {
        Due.sentence(7, "LOOK: an ENTRY that came since is read");
        ChoiceBench x = new ChoiceBench(3);
        Due.single(x, 1, Due.RECEIVE, 0, 0);
        Due.steps(x, 1, 2);
        Due.phase("its own", x, 1, Due.LOOK);
        Due.single(x, 0, Due.SEND, 0, 70);
        x.step(0);
        x.step(1);
        Due.phase("the one that came", x, 1, Due.CLAIM);
    }

    private static void end() {
        Due.each(
                StepEdgesTest::endWhenTaken,
                StepEdgesTest::endWhenOut,
                StepEdgesTest::endWhenBusy,
                StepEdgesTest::endWhenBusyNoMore,
                StepEdgesTest::endWhenClaimedAndNotBusy,
                StepEdgesTest::endWithoutGuards);
    }

    private static void endWhenTaken() {
        Due.sentence(7, "END: p's WORD is read. TAKEN .. WITHDRAW");
        ChoiceBench x = Scene.oneHeldIn(Due.END);
        Scene.twoTakesOne(x);
        Due.is("step(1)", x.step(1), 0);
        Due.phase("TAKEN", x, 1, Due.WITHDRAW);
        ChoiceBench y = Scene.oneIn(Due.BACK);
        Due.until(y, 1, Due.END);
        Scene.twoTakesOne(y);
        Due.is("step(1)", y.step(1), 0);
        Due.phase("TAKEN, and BUSY", y, 1, Due.WITHDRAW);
    }

    private static void endWhenOut() {
        Due.sentence(7, "END: p's WORD is read. .. OUT: WITHDRAW");
        ChoiceBench x = Scene.oneOutInLook();
        Due.until(x, 1, Due.END);
        Due.is("step(1)", x.step(1), 0);
        Due.phase("OUT, and BUSY", x, 1, Due.WITHDRAW);
    }

    private static void endWhenBusy() {
        Due.sentence(7, "if p is BUSY: .. LOOK at its first GUARD that is ON, from 0 on");
        ChoiceBench x = Scene.oneIn(Due.SECOND);
        x.spawn(3);
        x.guard(3, Due.RECEIVE, 1, 0, false);
        x.guard(3, Due.RECEIVE, 0, 0, true);
        x.guard(3, Due.RECEIVE, 5, 0, true);
        x.offer(3);
        Due.until(x, 3, Due.CLAIM);
        x.step(3);
        Due.until(x, 3, Due.END);
        Due.is("step(3) in END", x.step(3), 0);
        Due.phase("BUSY", x, 3, Due.LOOK);
        x.step(3);
        Due.phase("the ENTRY of 0 is read again", x, 3, Due.CLAIM);
    }

    private static void endWhenBusyNoMore() {
        Due.sentence(7, "if p is BUSY: not BUSY any more");
        ChoiceBench x = Scene.oneIn(Due.SECOND);
        Due.single(x, 3, Due.RECEIVE, 0, 0);
        Due.until(x, 3, Due.CLAIM);
        x.step(3);
        Scene.looksAgain(x, 3);
        Due.until(x, 1, Due.OWN);
        Due.is("word(0, 0)", x.word(0, 0), Due.TAKEN);
        Scene.fallsAsleep(x, 3);
    }

    private static void endWhenClaimedAndNotBusy() {
        Due.sentence(7, "END: else ASLEEP: WAITING or CLAIMED, and not BUSY");
        ChoiceBench x = Scene.oneHeldIn(Due.END);
        Due.is("step(1), CLAIMED", x.step(1), 1);
        Due.phase("CLAIMED", x, 1, Due.ASLEEP);
        ChoiceBench y = Scene.oneIn(Due.END);
        Due.is("step(1), WAITING", y.step(1), 1);
        Due.phase("WAITING", y, 1, Due.ASLEEP);
    }

    private static void endWithoutGuards() {
        Due.sentence(7, "END: else ASLEEP: no GUARD is ON");
        ChoiceBench x = withGuardsOn(false, false);
        Due.phase("no GUARD is ON", x, 1, Due.END);
        Due.is("step(1)", x.step(1), 1);
        Due.phase("no GUARD is ON", x, 1, Due.ASLEEP);
    }

    private static void asleep() {
        Due.each(
                StepEdgesTest::asleepWhenTaken,
                StepEdgesTest::asleepWhenWaiting,
                StepEdgesTest::asleepWhenClaimed);
    }

    private static void asleepWhenTaken() {
        Due.sentence(7, "ASLEEP: p's WORD is read. TAKEN .. WITHDRAW");
        ChoiceBench x = Scene.oneHeldIn(Due.ASLEEP);
        Scene.twoTakesOne(x);
        Due.phase("not before its STEP", x, 1, Due.ASLEEP);
        Due.is("step(1)", x.step(1), 0);
        Due.phase("TAKEN", x, 1, Due.WITHDRAW);
    }

    private static void asleepWhenWaiting() {
        Due.sentence(7, "else it stays ASLEEP: WAITING, whatever comes to the LISTS");
        ChoiceBench x = Scene.oneIn(Due.ASLEEP);
        Due.is("step(1)", x.step(1), 1);
        Due.single(x, 2, Due.RECEIVE, 1, 0);
        x.step(2);
        Due.is("step(1)", x.step(1), 1);
        Due.phase("an ENTRY came that matches", x, 1, Due.ASLEEP);
        Due.is("count(7)", x.count(7), 0);
    }

    private static void asleepWhenClaimed() {
        Due.sentence(7, "else it stays ASLEEP: CLAIMED");
        ChoiceBench x = Scene.oneHeldIn(Due.ASLEEP);
        Due.is("step(1)", x.step(1), 1);
        Due.is("step(1)", x.step(1), 1);
        Due.is("word(1, 2)", x.word(1, 2), 2);
    }

    private static void withdraw() {
        Due.each(
                StepEdgesTest::withdrawInOrder,
                StepEdgesTest::withdrawOfWhatWasPublished,
                StepEdgesTest::withdrawOfItsOwnOnly,
                StepEdgesTest::withdrawInEachOffer,
                StepEdgesTest::withdrawOfNoneByTime,
                StepEdgesTest::withdrawOfNoneWithoutGuards,
                StepEdgesTest::withdrawEndsByTime,
                StepEdgesTest::withdrawEndsCommitted);
    }

    private static void withdrawInOrder() {
        Due.sentence(7, "at the first of its ENTRIES that is still there, in the order in which they were published");
        ChoiceBench x = new ChoiceBench(2);
        int[] channels = {5, 0, 5, 7, 0, 5, 1, 5};
        x.spawn(0);
        for (int channel : channels) {
            x.guard(0, Due.SEND, channel, 0, true);
        }
        x.offer(0);
        Due.until(x, 0, Due.LOOK);
        x.cancel(0);
        for (int i = 0; i < 8; i++) {
            Due.is("entry(" + channels[i] + ", 0, 3)", x.entry(channels[i], 0, 3), i + 1);
            Due.is("count(5)", x.count(5), 8 - i);
            Due.is("step(0), the " + (i + 1) + "th", x.step(0), i == 7 ? 5 : 0);
        }
        Due.is("count(5)", x.count(5), 0);
    }

    private static void withdrawOfWhatWasPublished() {
        Due.sentence(7, "When p has none any more .. it is DONE: some were never published");
        ChoiceBench x = withGuardsOn(true, true, true);
        Due.steps(x, 1, 2);
        x.cancel(1);
        Due.is("step(1)", x.step(1), 0);
        Due.is("step(1)", x.step(1), 5);
        Due.phase("two were there", x, 1, Due.DONE);
    }

    private static void withdrawOfItsOwnOnly() {
        Due.sentence(7, "it goes from its LIST: those of others stay");
        ChoiceBench x = new ChoiceBench(3);
        for (int p = 0; p < 3; p++) {
            Due.single(x, p, Due.SEND, 2, p);
            x.step(p);
        }
        x.cancel(1);
        Due.is("step(1)", x.step(1), 5);
        Due.is("entry(2, 0, 0)", x.entry(2, 0, 0), 0);
        Due.is("entry(2, 1, 0)", x.entry(2, 1, 0), 2);
        Due.is("entry(2, 1, 3)", x.entry(2, 1, 3), 3);
        Due.is("entry(2, 2, 0)", x.entry(2, 2, 0), NONE);
    }

    private static void withdrawInEachOffer() {
        Due.sentence(7, "WITHDRAW, at the first of its ENTRIES: in each OFFER anew");
        ChoiceBench x = new ChoiceBench(2);
        x.spawn(0);
        for (int many : new int[] {2, 1, 3, 8, 1}) {
            for (int i = 0; i < many; i++) {
                x.guard(0, Due.SEND, 2, i, true);
            }
            x.offer(0);
            Due.until(x, 0, Due.LOOK);
            x.cancel(0);
            for (int i = 1; i <= many; i++) {
                Due.is("step(0), " + i + " of " + many, x.step(0), i == many ? 5 : 0);
                Due.is("count(5)", x.count(5), many - i);
            }
            x.finish(0);
        }
    }

    private static void withdrawOfNoneByTime() {
        Due.sentence(7, "(also where WITHDRAW would follow): by time in PUBLISH");
        ChoiceBench x = Scene.oneIn(Due.PUBLISH);
        Scene.ticks(x, 4);
        Due.is("step(1)", x.step(1), 3);
        Due.phase("DONE at once", x, 1, Due.DONE);
        Due.is("count(4)", x.count(4), 1);
    }

    private static void withdrawOfNoneWithoutGuards() {
        Due.sentence(7, "(also where WITHDRAW would follow): by time in END and ASLEEP without GUARDS");
        for (int i = 0; i < 2; i++) {
            ChoiceBench x = new ChoiceBench(2);
            x.spawn(0);
            x.timeout(0, 1);
            x.offer(0);
            Due.steps(x, 0, i);
            x.tick();
            Due.is("step(0)", x.step(0), 3);
            Due.phase("DONE at once", x, 0, Due.DONE);
        }
    }

    private static void withdrawEndsByTime() {
        Due.sentence(7, "else it is OVER, by time or because it was taken back");
        ChoiceBench x = Scene.oneIn(Due.ASLEEP);
        Scene.ticks(x, 4);
        x.step(1);
        Due.no("cancel(1), OUT by time", x.cancel(1));
        x.step(1);
        Due.is("step(1), by time", x.step(1), 3);
        ChoiceBench y = Scene.oneIn(Due.ASLEEP);
        y.cancel(1);
        Scene.ticks(y, 4);
        y.step(1);
        Due.is("step(1), taken back", y.step(1), 5);
        y.finish(1);
        y.timeout(1, 1);
        y.offer(1);
        y.tick();
        Due.is("step(1), by time in the next OFFER", y.step(1), 3);
    }

    private static void withdrawEndsCommitted() {
        Due.sentence(7, "COMMITTED, if its WORD is TAKEN");
        ChoiceBench x = Scene.oneIn(Due.PUBLISH);
        x.cancel(1);
        x.finish(1);
        Due.single(x, 1, Due.RECEIVE, 0, 0);
        x.step(1);
        Due.single(x, 0, Due.SEND, 0, 70);
        Due.until(x, 0, Due.DONE);
        Due.is("step(0), which claimed", x.step(0), 2);
        Due.until(x, 1, Due.DONE);
        Due.is("step(1), OVER in the OFFER before", x.step(1), 2);
    }
}
