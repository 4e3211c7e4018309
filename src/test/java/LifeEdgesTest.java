/** The edges that promises 1 to 6, 9 and 10 name, and what they refuse: a test for each of them. */
public final class LifeEdgesTest {
    private static final int NONE = ChoiceBench.NONE;
    private static final int MIN = Integer.MIN_VALUE;
    private static final int MAX = Integer.MAX_VALUE;

    private static final int[] NOT_GONE = {
        Due.IDLE, Due.PUBLISH, Due.LOOK, Due.CLAIM, Due.SECOND, Due.BACK, Due.TELL, Due.OWN, Due.END,
        Due.ASLEEP, Due.WITHDRAW, Due.DONE
    };
    private static final int[] NOT_IDLE = {
        Due.GONE, Due.PUBLISH, Due.LOOK, Due.CLAIM, Due.SECOND, Due.BACK, Due.TELL, Due.OWN, Due.END,
        Due.ASLEEP, Due.WITHDRAW, Due.DONE
    };
    private static final int[] NOT_DONE = {
        Due.GONE, Due.IDLE, Due.PUBLISH, Due.LOOK, Due.CLAIM, Due.SECOND, Due.BACK, Due.TELL, Due.OWN,
        Due.END, Due.ASLEEP, Due.WITHDRAW
    };

    public static void main(String[] args) {
        newObject();
        spawn();
        quit();
        guard();
        timeout();
        offer();
        finish();
        tick();
        Due.end();
    }

    private static void newObject() {
        Due.each(
                LifeEdgesTest::tooFewProcesses,
                LifeEdgesTest::tooManyProcesses,
                LifeEdgesTest::eachNumberOfProcesses,
                LifeEdgesTest::numbersFromZeroOn,
                LifeEdgesTest::allGone,
                LifeEdgesTest::wordsFree,
                LifeEdgesTest::versionZero,
                LifeEdgesTest::clockZero,
                LifeEdgesTest::listsEmpty,
                LifeEdgesTest::noneIsMinusOne,
                LifeEdgesTest::lastOfAllCalls,
                LifeEdgesTest::dearestCalls);
    }

    private static void tooFewProcesses() {
        Due.sentence(1, "2 .. 16; others count as the nearest of these: too few");
        for (int asked : new int[] {1, 0, -1, -2, -16, MIN}) {
            ChoiceBench x = new ChoiceBench(asked);
            Due.is("new(" + asked + ") count(0)", x.count(0), 2);
            Due.yes("new(" + asked + ") spawn(1)", x.spawn(1));
            Due.no("new(" + asked + ") spawn(2)", x.spawn(2));
        }
    }

    private static void tooManyProcesses() {
        Due.sentence(1, "2 .. 16; others count as the nearest of these: too many");
        for (int asked : new int[] {17, 18, 32, 1000, MAX}) {
            ChoiceBench x = new ChoiceBench(asked);
            Due.is("new(" + asked + ") count(0)", x.count(0), 16);
            Due.yes("new(" + asked + ") spawn(15)", x.spawn(15));
            Due.no("new(" + asked + ") spawn(16)", x.spawn(16));
        }
    }

    private static void eachNumberOfProcesses() {
        Due.sentence(1, "So many PROCESSES (2 .. 16");
        for (int asked = 2; asked <= 16; asked++) {
            Due.is("new(" + asked + ") count(0)", new ChoiceBench(asked).count(0), asked);
        }
    }

    private static void numbersFromZeroOn() {
        Due.sentence(1, "as many PROCESSES as the constructor says, by numbers from 0 on");
        for (int asked = 2; asked <= 16; asked++) {
            ChoiceBench x = new ChoiceBench(asked);
            Due.no("spawn(-1) of " + asked, x.spawn(-1));
            for (int p = 0; p < asked; p++) {
                Due.yes("spawn(" + p + ") of " + asked, x.spawn(p));
            }
            Due.no("spawn(" + asked + ") of " + asked, x.spawn(asked));
            Due.is("count(1) of " + asked, x.count(1), asked);
        }
    }

    private static void allGone() {
        Due.sentence(1, "all GONE");
        ChoiceBench x = new ChoiceBench(16);
        for (int p = 0; p < 16; p++) {
            Due.is("phase(" + p + ")", x.phase(p), Due.GONE);
        }
        Due.is("count(1)", x.count(1), 0);
    }

    private static void wordsFree() {
        Due.sentence(1, "WORDS FREE");
        ChoiceBench x = new ChoiceBench(16);
        for (int p = 0; p < 16; p++) {
            Due.is("word(" + p + ", 0)", x.word(p, 0), Due.FREE);
            Due.is("word(" + p + ", 2)", x.word(p, 2), NONE);
        }
    }

    private static void versionZero() {
        Due.sentence(1, "and a VERSION (0 at first)");
        ChoiceBench x = new ChoiceBench(16);
        for (int p = 0; p < 16; p++) {
            Due.is("word(" + p + ", 1)", x.word(p, 1), 0);
        }
    }

    private static void clockZero() {
        Due.sentence(1, "the CLOCK is 0 at first");
        Due.is("count(3)", new ChoiceBench(2).count(3), 0);
    }

    private static void listsEmpty() {
        Due.sentence(1, "for each CHANNEL its LIST of ENTRIES: a new one is empty");
        ChoiceBench x = new ChoiceBench(2);
        for (int channel = 0; channel < 8; channel++) {
            for (int what = 0; what < 5; what++) {
                Due.is("entry(" + channel + ", 0, " + what + ")", x.entry(channel, 0, what), NONE);
            }
        }
        Due.is("count(5)", x.count(5), 0);
    }

    private static void noneIsMinusOne() {
        Due.sentence(1, "NONE = -1");
        Due.is("NONE", ChoiceBench.NONE, -1);
    }

    private static void lastOfAllCalls() {
        Due.sentence(1, "An object is used for at most 512 calls");
        for (int n = 508; n <= 509; n++) {
            ChoiceBench x = new ChoiceBench(2);
            x.spawn(0);
            x.timeout(0, n);
            x.offer(0);
            Scene.ticks(x, 508);
            Due.is("the 512th call: step(0) at CLOCK 508, DUE at " + n, x.step(0), n == 508 ? 3 : 1);
        }
    }

    private static void dearestCalls() {
        Due.sentence(1, "An object is used for at most 512 calls: 351 of them with 5000 STEPS each");
        ChoiceBench x = new ChoiceBench(16);
        for (int p = 0; p < 16; p++) {
            x.spawn(p);
            for (int g = 0; g < 8; g++) {
                x.guard(p, Due.SEND, 7, g, true);
            }
            x.offer(p);
        }
        for (int i = 0; i < 351; i++) {
            Due.is("run(5000, " + i + ")", x.run(5000, i), 0);
        }
        Due.is("the 512th call: count(4)", x.count(4), 351 * 5000);
    }

    private static void spawn() {
        Due.each(
                LifeEdgesTest::spawnOfFirstAndLast,
                LifeEdgesTest::spawnWithoutGuards,
                LifeEdgesTest::spawnWithoutTimeout,
                LifeEdgesTest::spawnAgainKeepsVersion,
                LifeEdgesTest::spawnOfNoProcess,
                LifeEdgesTest::spawnOfOneNotGone);
    }

    private static void spawnOfFirstAndLast() {
        Due.sentence(2, "A GONE one is IDLE .. true: the first and the last one");
        ChoiceBench x = new ChoiceBench(5);
        Due.yes("spawn(0)", x.spawn(0));
        Due.yes("spawn(4)", x.spawn(4));
        int[] due = {Due.IDLE, Due.GONE, Due.GONE, Due.GONE, Due.IDLE};
        for (int p = 0; p < 5; p++) {
            Due.phase("spawned", x, p, due[p]);
        }
    }

    private static void spawnWithoutGuards() {
        Due.sentence(2, "without GUARDS");
        ChoiceBench x = new ChoiceBench(2);
        x.spawn(0);
        for (int i = 0; i < 8; i++) {
            x.guard(0, Due.SEND, i, i, true);
        }
        x.quit(0);
        Due.yes("spawn(0) again", x.spawn(0));
        for (int i = 0; i < 8; i++) {
            Due.yes("guard " + i + " again", x.guard(0, Due.SEND, 0, i, false));
        }
        x.offer(0);
        Due.phase("no GUARD is ON any more", x, 0, Due.END);
    }

    private static void spawnWithoutTimeout() {
        Due.sentence(2, "without .. time-out");
        ChoiceBench x = new ChoiceBench(2);
        x.spawn(0);
        x.timeout(0, 1);
        x.quit(0);
        Due.yes("spawn(0) again", x.spawn(0));
        x.offer(0);
        Scene.ticks(x, 2);
        Due.is("step(0) at CLOCK 2", x.step(0), 1);
    }

    private static void spawnAgainKeepsVersion() {
        Due.sentence(2, "A GONE one is IDLE: its WORD is as it was");
        ChoiceBench x = new ChoiceBench(2);
        x.spawn(0);
        x.offer(0);
        x.cancel(0);
        x.finish(0);
        x.quit(0);
        Due.yes("spawn(0) again", x.spawn(0));
        Due.is("word(0, 0)", x.word(0, 0), Due.FREE);
        Due.is("word(0, 1)", x.word(0, 1), 1);
    }

    private static void spawnOfNoProcess() {
        Due.sentence(2, "false if p is none such: no PROCESS");
        Scene.refusedOfNoProcess("spawn", (x, p) -> x.spawn(p), Due.GONE);
    }

    private static void spawnOfOneNotGone() {
        Due.sentence(2, "false if p is none such: not GONE");
        Scene.refusedInAll("spawn(1)", x -> x.spawn(1), NOT_GONE);
    }

    private static void quit() {
        Due.each(
                LifeEdgesTest::quitOfFirstAndLast,
                LifeEdgesTest::quitOfNoProcess,
                LifeEdgesTest::quitOfOneNotIdle);
    }

    private static void quitOfFirstAndLast() {
        Due.sentence(3, "An IDLE one is GONE: true: the first and the last one");
        ChoiceBench x = new ChoiceBench(3);
        for (int p = 0; p < 3; p++) {
            x.spawn(p);
        }
        Due.yes("quit(0)", x.quit(0));
        Due.yes("quit(2)", x.quit(2));
        Due.phase("quit", x, 0, Due.GONE);
        Due.phase("not quit", x, 1, Due.IDLE);
        Due.phase("quit", x, 2, Due.GONE);
    }

    private static void quitOfNoProcess() {
        Due.sentence(3, "false if p is none such: no PROCESS");
        Scene.refusedOfNoProcess("quit", (x, p) -> x.quit(p), Due.IDLE);
    }

    private static void quitOfOneNotIdle() {
        Due.sentence(3, "false if p is none such: not IDLE");
        Scene.refusedInAll("quit(1)", x -> x.quit(1), NOT_IDLE);
    }

    private static void guard() {
        Due.each(
                LifeEdgesTest::guardOfEachKind,
                LifeEdgesTest::guardOfNoKind,
                LifeEdgesTest::guardOnEachChannel,
                LifeEdgesTest::guardOnNoChannel,
                LifeEdgesTest::guardsUpToEight,
                LifeEdgesTest::guardsMoreThanEight,
                LifeEdgesTest::guardsNotOnCountToo,
                LifeEdgesTest::guardRefusedTakesNoPlace,
                LifeEdgesTest::guardOfAnyValue,
                LifeEdgesTest::guardOfNoProcess,
                LifeEdgesTest::guardOfOneNotIdle);
    }

    private static void guardOfEachKind() {
        Due.sentence(4, "each to send (0) a value, or to receive (1)");
        for (int kind = 0; kind <= 1; kind++) {
            ChoiceBench x = new ChoiceBench(2);
            x.spawn(0);
            Due.yes("guard of kind " + kind, x.guard(0, kind, 0, 5, true));
            x.offer(0);
            x.step(0);
            Due.is("entry(0, 0, 1)", x.entry(0, 0, 1), kind);
        }
    }

    private static void guardOfNoKind() {
        Due.sentence(4, "False if .. kind is not 0 or 1");
        for (int kind : new int[] {-1, 2, 3, 256, MIN, MAX}) {
            Scene.refused("guard(1, " + kind + ", 0, 5, true)", x -> x.guard(1, kind, 0, 5, true), Due.IDLE);
        }
    }

    private static void guardOnEachChannel() {
        Due.sentence(4, "CHANNELS 0 .. 7");
        ChoiceBench x = new ChoiceBench(2);
        x.spawn(0);
        for (int channel = 0; channel < 8; channel++) {
            Due.yes("guard on " + channel, x.guard(0, Due.SEND, channel, 50 + channel, true));
        }
        x.offer(0);
        Due.until(x, 0, Due.LOOK);
        for (int channel = 0; channel < 8; channel++) {
            Due.is("entry(" + channel + ", 0, 2)", x.entry(channel, 0, 2), 50 + channel);
        }
    }

    private static void guardOnNoChannel() {
        Due.sentence(4, "False if .. there is no such CHANNEL");
        for (int channel : new int[] {-1, 8, 9, 256, MIN, MAX}) {
            Scene.refused("guard(1, 0, " + channel + ", 5, true)",
                    x -> x.guard(1, Due.SEND, channel, 5, true), Due.IDLE);
        }
    }

    private static ChoiceBench eightGuards(boolean on) {
        ChoiceBench x = new ChoiceBench(2);
        x.spawn(0);
        for (int i = 1; i <= 8; i++) {
            Due.yes("guard, the " + i + "th", x.guard(0, Due.SEND, 3, i, on));
        }
        return x;
    }

    private static void guardsUpToEight() {
        Due.sentence(4, "An IDLE one is given up to eight GUARDS");
        ChoiceBench x = eightGuards(true);
        x.offer(0);
        Due.steps(x, 0, 7);
        Due.phase("seven are published", x, 0, Due.PUBLISH);
        x.step(0);
        Due.phase("eight are published", x, 0, Due.LOOK);
        for (int i = 0; i < 8; i++) {
            Due.is("entry(3, " + i + ", 2)", x.entry(3, i, 2), i + 1);
        }
    }

    private static void guardsMoreThanEight() {
        Due.sentence(4, "False if .. it has eight");
        ChoiceBench x = eightGuards(true);
        Due.no("guard, the 9th", x.guard(0, Due.SEND, 3, 9, true));
        Due.no("guard, the 10th", x.guard(0, Due.SEND, 3, 10, false));
        x.offer(0);
        Due.until(x, 0, Due.LOOK);
        Due.is("eight and no more are published", x.count(6), 8);
        Due.is("the first is as it was", x.entry(3, 0, 2), 1);
        Due.is("the last is as it was", x.entry(3, 7, 2), 8);
    }

    private static void guardsNotOnCountToo() {
        Due.sentence(4, "False if .. it has eight: ON or not");
        ChoiceBench x = eightGuards(false);
        Due.no("guard, the 9th", x.guard(0, Due.SEND, 3, 9, true));
        x.offer(0);
        Due.phase("none is ON", x, 0, Due.END);
    }

    private static void guardRefusedTakesNoPlace() {
        Due.sentence(4, "What is refused changes nothing: it takes none of the eight places");
        ChoiceBench x = new ChoiceBench(2);
        x.spawn(0);
        for (int i = 0; i < 8; i++) {
            Due.no("guard of kind 2", x.guard(0, 2, 3, 99, true));
            Due.no("guard on 8", x.guard(0, Due.SEND, 8, 99, true));
            Due.yes("guard " + i, x.guard(0, Due.SEND, 3, i, true));
        }
        x.offer(0);
        Due.until(x, 0, Due.LOOK);
        Due.is("eight are published", x.count(6), 8);
    }

    private static void guardOfAnyValue() {
        Due.sentence(4, "An IDLE one has a GUARD more: true: whatever its value");
        for (int value : new int[] {0, -1, 1, MIN, MAX}) {
            ChoiceBench x = new ChoiceBench(2);
            x.spawn(0);
            Due.yes("guard of value " + value, x.guard(0, Due.SEND, 0, value, true));
            x.offer(0);
            x.step(0);
            Due.is("entry(0, 0, 2)", x.entry(0, 0, 2), value);
        }
    }

    private static void guardOfNoProcess() {
        Due.sentence(4, "False if p is none such: no PROCESS");
        Scene.refusedOfNoProcess("guard", (x, p) -> x.guard(p, 0, 0, 5, true), Due.IDLE);
    }

    private static void guardOfOneNotIdle() {
        Due.sentence(4, "False if p is none such: not IDLE");
        Scene.refusedInAll("guard(1, 0, 0, 5, true)", x -> x.guard(1, 0, 0, 5, true), NOT_IDLE);
    }

    private static void timeout() {
        Due.each(
                LifeEdgesTest::timeoutOfZero,
                LifeEdgesTest::timeoutOfOne,
                LifeEdgesTest::timeoutOfThousand,
                LifeEdgesTest::timeoutTooSmall,
                LifeEdgesTest::timeoutTooLarge,
                LifeEdgesTest::timeoutOfNoProcess,
                LifeEdgesTest::timeoutOfOneNotIdle);
    }

    private static void timeoutOfZero() {
        Due.sentence(5, "0: none");
        ChoiceBench x = new ChoiceBench(2);
        x.spawn(0);
        x.timeout(0, 1);
        Due.yes("timeout(0, 0)", x.timeout(0, 0));
        x.offer(0);
        Due.is("step(0) at CLOCK 0", x.step(0), 1);
        Scene.ticks(x, 3);
        Due.is("step(0) at CLOCK 3", x.step(0), 1);
    }

    private static void timeoutOfOne() {
        Due.sentence(5, "An IDLE one's time-out is n: the smallest one");
        ChoiceBench x = new ChoiceBench(2);
        x.spawn(0);
        Due.yes("timeout(0, 1000)", x.timeout(0, 1000));
        Due.yes("timeout(0, 1)", x.timeout(0, 1));
        x.offer(0);
        Due.is("step(0) at CLOCK 0", x.step(0), 1);
        x.tick();
        Due.is("step(0) at CLOCK 1", x.step(0), 3);
    }

    /** CLOCK 1000 can't be reached in 512 calls: ForcedStateTest looks there. */
    private static void timeoutOfThousand() {
        Due.sentence(5, "n is not 0 .. 1000: the largest one");
        ChoiceBench x = new ChoiceBench(2);
        x.spawn(0);
        Due.yes("timeout(0, 1000)", x.timeout(0, 1000));
        x.offer(0);
        Scene.ticks(x, 500);
        Due.is("step(0) at CLOCK 500", x.step(0), 1);
    }

    private static void timeoutTooSmall() {
        Due.sentence(5, "false if .. n is not 0 .. 1000: too small");
        for (int n : new int[] {-1, -2, -1000, MIN}) {
            Scene.refused("timeout(1, " + n + ")", x -> x.timeout(1, n), Due.IDLE);
        }
    }

    private static void timeoutTooLarge() {
        Due.sentence(5, "false if .. n is not 0 .. 1000: too large");
        for (int n : new int[] {1001, 1002, 65536, MAX}) {
            Scene.refused("timeout(1, " + n + ")", x -> x.timeout(1, n), Due.IDLE);
        }
    }

    private static void timeoutOfNoProcess() {
        Due.sentence(5, "false if p is none such: no PROCESS");
        Scene.refusedOfNoProcess("timeout", (x, p) -> x.timeout(p, 1), Due.IDLE);
    }

    private static void timeoutOfOneNotIdle() {
        Due.sentence(5, "false if p is none such: not IDLE");
        Scene.refusedInAll("timeout(1, 1)", x -> x.timeout(1, 1), NOT_IDLE);
        Scene.refusedInAll("timeout(1, 0)", x -> x.timeout(1, 0), NOT_IDLE);
    }

    private static void offer() {
        Due.each(
                LifeEdgesTest::offerIsOneVersionMore,
                LifeEdgesTest::offerWithoutGuards,
                LifeEdgesTest::offerWithoutGuardsOn,
                LifeEdgesTest::offerAtFirstGuardOn,
                LifeEdgesTest::offerIsNotBusy,
                LifeEdgesTest::offerIsDueAtClockAndN,
                LifeEdgesTest::offerIsNotDueWithoutTimeout,
                LifeEdgesTest::offerIsNoStep,
                LifeEdgesTest::offerOfNoProcess,
                LifeEdgesTest::offerOfOneNotIdle);
    }

    private static void offerIsOneVersionMore() {
        Due.sentence(6, "an IDLE one's VERSION is 1 more, its WORD is WAITING");
        ChoiceBench x = new ChoiceBench(2);
        x.spawn(0);
        for (int version = 1; version <= 100; version++) {
            Due.yes("offer(0)", x.offer(0));
            Due.is("word(0, 1)", x.word(0, 1), version);
            Due.is("word(0, 0)", x.word(0, 0), Due.WAITING);
            x.cancel(0);
            x.finish(0);
        }
        Due.is("word(1, 1)", x.word(1, 1), 0);
    }

    private static void offerWithoutGuards() {
        Due.sentence(6, "without such a one: END: no GUARD at all");
        ChoiceBench x = new ChoiceBench(2);
        x.spawn(0);
        Due.yes("offer(0)", x.offer(0));
        Due.phase("offered", x, 0, Due.END);
        Due.is("step(0)", x.step(0), 1);
        Due.is("nothing was published", x.count(6), 0);
    }

    private static void offerWithoutGuardsOn() {
        Due.sentence(6, "without such a one: END: no GUARD is ON");
        ChoiceBench x = eightGuards(false);
        Due.yes("offer(0)", x.offer(0));
        Due.phase("offered", x, 0, Due.END);
        Due.is("step(0)", x.step(0), 1);
        Due.is("nothing was published", x.count(6), 0);
    }

    private static void offerAtFirstGuardOn() {
        Due.sentence(6, "in the PHASE PUBLISH at its first GUARD that is ON");
        for (int first = 0; first < 8; first++) {
            ChoiceBench x = new ChoiceBench(2);
            x.spawn(0);
            for (int i = 0; i < 8; i++) {
                x.guard(0, Due.SEND, i, 50 + i, i == first || i == 7);
            }
            x.offer(0);
            Due.phase("offered", x, 0, Due.PUBLISH);
            x.step(0);
            Due.is("entry(" + first + ", 0, 3)", x.entry(first, 0, 3), 1);
            Due.is("count(5)", x.count(5), 1);
        }
    }

    private static void offerIsNotBusy() {
        Due.sentence(6, "not BUSY");
        ChoiceBench x = Scene.oneIn(Due.SECOND);
        Due.single(x, 3, Due.RECEIVE, 0, 0);
        Due.until(x, 3, Due.CLAIM);
        x.step(3);
        Due.phase("3 is BUSY: 0 is CLAIMED by 1", x, 3, Due.LOOK);
        x.cancel(3);
        Due.is("step(3)", x.step(3), 5);
        x.finish(3);
        Due.single(x, 3, Due.RECEIVE, 5, 0);
        Due.until(x, 3, Due.END);
        Due.is("step(3) in END", x.step(3), 1);
        Due.phase("not BUSY", x, 3, Due.ASLEEP);
    }

    private static void offerIsDueAtClockAndN() {
        Due.sentence(6, "if it has a time-out of n > 0, it is DUE at the CLOCK and n");
        for (int before = 0; before <= 3; before++) {
            for (int n = 1; n <= 3; n++) {
                ChoiceBench x = new ChoiceBench(2);
                x.spawn(0);
                x.timeout(0, n);
                Scene.ticks(x, before);
                x.offer(0);
                Scene.ticks(x, n - 1);
                Due.is("step(0) one before " + (before + n), x.step(0), 1);
                x.tick();
                Due.is("step(0) at " + (before + n), x.step(0), 3);
            }
        }
    }

    private static void offerIsNotDueWithoutTimeout() {
        Due.sentence(6, "if it has a time-out: one of an earlier OFFER is none");
        ChoiceBench x = new ChoiceBench(2);
        x.spawn(0);
        x.timeout(0, 2);
        x.offer(0);
        x.cancel(0);
        x.finish(0);
        x.offer(0);
        Due.is("step(0) at CLOCK 0", x.step(0), 1);
        Scene.ticks(x, 5);
        Due.is("step(0) at CLOCK 5", x.step(0), 1);
    }

    private static void offerIsNoStep() {
        Due.sentence(6, "An IDLE one OFFERS: it is no access of its PHASE");
        ChoiceBench x = Scene.oneIn(Due.PUBLISH);
        Due.is("count(4)", x.count(4), 0);
        Due.is("count(6)", x.count(6), 0);
    }

    private static void offerOfNoProcess() {
        Due.sentence(6, "false if p is none such: no PROCESS");
        Scene.refusedOfNoProcess("offer", (x, p) -> x.offer(p), Due.IDLE);
    }

    private static void offerOfOneNotIdle() {
        Due.sentence(6, "false if p is none such: not IDLE");
        Scene.refusedInAll("offer(1)", x -> x.offer(1), NOT_IDLE);
    }

    private static void finish() {
        Due.each(
                LifeEdgesTest::finishOfEachDone,
                LifeEdgesTest::finishWithoutGuards,
                LifeEdgesTest::finishWithoutTimeout,
                LifeEdgesTest::finishIsFree,
                LifeEdgesTest::finishKeepsVersion,
                LifeEdgesTest::finishOfNoProcess,
                LifeEdgesTest::finishOfOneNotDone);
    }

    /** 0 is DONE behind three ENTRIES: OVER by time, or taken back. */
    private static ChoiceBench over(boolean byTime) {
        ChoiceBench x = eightGuards(true);
        x.timeout(0, 1);
        x.offer(0);
        Due.steps(x, 0, 3);
        if (byTime) {
            x.tick();
            x.step(0);
        } else {
            x.cancel(0);
        }
        Due.until(x, 0, Due.DONE);
        return x;
    }

    private static void finishOfEachDone() {
        Due.sentence(9, "A DONE one is IDLE: true: COMMITTED, OVER by time, taken back");
        ChoiceBench x = Scene.oneIn(Due.DONE);
        Due.is("step(1)", x.step(1), 2);
        Due.yes("finish(1), COMMITTED", x.finish(1));
        Due.phase("finished", x, 1, Due.IDLE);
        for (int i = 0; i < 2; i++) {
            ChoiceBench y = over(i == 0);
            Due.is("step(0)", y.step(0), i == 0 ? 3 : 5);
            Due.yes("finish(0), OVER", y.finish(0));
            Due.phase("finished", y, 0, Due.IDLE);
        }
    }

    private static void finishWithoutGuards() {
        Due.sentence(9, "without GUARDS");
        ChoiceBench x = over(false);
        x.finish(0);
        for (int i = 0; i < 8; i++) {
            Due.yes("guard " + i + " again", x.guard(0, Due.SEND, 0, i, false));
        }
        x.offer(0);
        Due.phase("no GUARD is ON any more", x, 0, Due.END);
    }

    private static void finishWithoutTimeout() {
        Due.sentence(9, "without .. time-out");
        ChoiceBench x = over(true);
        x.finish(0);
        x.offer(0);
        Scene.ticks(x, 3);
        Due.is("step(0) at CLOCK 4", x.step(0), 1);
    }

    private static void finishIsFree() {
        Due.sentence(9, "its WORD FREE");
        ChoiceBench x = Scene.oneIn(Due.DONE);
        Due.is("word(1, 0) COMMITTED", x.word(1, 0), Due.TAKEN);
        x.finish(1);
        Due.is("word(1, 0)", x.word(1, 0), Due.FREE);
        Due.is("word(0, 0) of the other one", x.word(0, 0), Due.TAKEN);
        ChoiceBench y = over(true);
        Due.is("word(0, 0) OVER", y.word(0, 0), Due.OUT);
        y.finish(0);
        Due.is("word(0, 0)", y.word(0, 0), Due.FREE);
    }

    private static void finishKeepsVersion() {
        Due.sentence(9, "the VERSION stays");
        ChoiceBench x = over(false);
        Due.is("word(0, 1)", x.word(0, 1), 1);
        x.finish(0);
        Due.is("word(0, 1)", x.word(0, 1), 1);
        x.offer(0);
        Due.is("word(0, 1)", x.word(0, 1), 2);
    }

    private static void finishOfNoProcess() {
        Due.sentence(9, "false if p is none such: no PROCESS");
        Scene.refusedOfNoProcess("finish", (x, p) -> x.finish(p), Due.DONE);
    }

    private static void finishOfOneNotDone() {
        Due.sentence(9, "false if p is none such: not DONE");
        Scene.refusedInAll("finish(1)", x -> x.finish(1), NOT_DONE);
    }

    private static void tick() {
        Due.each(
                LifeEdgesTest::tickIsOneMore,
                LifeEdgesTest::tickIsNoStep);
    }

    private static void tickIsOneMore() {
        Due.sentence(10, "The CLOCK is 1 more: what it is");
        ChoiceBench x = new ChoiceBench(2);
        for (int clock = 1; clock <= 511; clock++) {
            Due.is("tick()", x.tick(), clock);
        }
        Due.is("count(3)", x.count(3), 511);
    }

    private static void tickIsNoStep() {
        Due.sentence(10, "The CLOCK is 1 more: one that is DUE thereby has no STEP");
        ChoiceBench x = Scene.oneIn(Due.ASLEEP);
        int before = x.count(4);
        Due.is("tick()", x.tick(), 1);
        Scene.ticks(x, 3);
        Due.phase("DUE at CLOCK 4", x, 1, Due.ASLEEP);
        Due.is("word(1, 0)", x.word(1, 0), Due.WAITING);
        Due.is("count(4)", x.count(4), before);
    }
}
