/** The edges that promises 8 and 11 name, and what they refuse: a test for each of them. */
public final class CancelAndRunEdgesTest {
    private static final int NONE = ChoiceBench.NONE;

    public static void main(String[] args) {
        cancel();
        run();
        Due.end();
    }

    private static void cancel() {
        Due.each(
                CancelAndRunEdgesTest::cancelInEachPhaseThatEnds,
                CancelAndRunEdgesTest::cancelInSecond,
                CancelAndRunEdgesTest::cancelInBack,
                CancelAndRunEdgesTest::cancelWithoutEntries,
                CancelAndRunEdgesTest::cancelWithoutGuards,
                CancelAndRunEdgesTest::cancelWhenDue,
                CancelAndRunEdgesTest::cancelIsNoStep,
                CancelAndRunEdgesTest::cancelOfNoProcess,
                CancelAndRunEdgesTest::cancelOfOneNotOffering,
                CancelAndRunEdgesTest::cancelOfOneOver,
                CancelAndRunEdgesTest::cancelOfOneThatHoldsItself,
                CancelAndRunEdgesTest::cancelOfOneClaimedByAnother,
                CancelAndRunEdgesTest::cancelOfOneTaken,
                CancelAndRunEdgesTest::cancelOfOneOut);
    }

    private static void cancelInEachPhaseThatEnds() {
        Due.sentence(8, "in PUBLISH, LOOK, CLAIM, END and ASLEEP p goes on with WITHDRAW");
        for (int phase : new int[] {Due.PUBLISH, Due.LOOK, Due.CLAIM, Due.END, Due.ASLEEP}) {
            ChoiceBench x = Scene.oneIn(phase);
            if (phase == Due.PUBLISH) {
                x.step(1);
            }
            Due.phase("before", x, 1, phase);
            Due.yes("cancel(1) in PHASE " + phase, x.cancel(1));
            Due.is("word(1, 0)", x.word(1, 0), Due.OUT);
            Due.phase("taken back", x, 1, Due.WITHDRAW);
            Due.until(x, 1, Due.DONE);
            Due.is("step(1)", x.step(1), 5);
        }
    }

    private static void cancelInSecond() {
        Due.sentence(8, "in PUBLISH, LOOK, CLAIM, END and ASLEEP: it stays in SECOND");
        ChoiceBench x = Scene.oneIn(Due.SECOND);
        Due.yes("cancel(1)", x.cancel(1));
        Due.is("word(1, 0)", x.word(1, 0), Due.OUT);
        Due.phase("taken back", x, 1, Due.SECOND);
        Due.is("word(0, 2)", x.word(0, 2), 1);
        Due.until(x, 1, Due.DONE);
        Due.is("word(0, 0)", x.word(0, 0), Due.WAITING);
        Due.is("step(1)", x.step(1), 5);
        Due.is("count(2)", x.count(2), 0);
    }

    private static void cancelInBack() {
        Due.sentence(8, "in PUBLISH, LOOK, CLAIM, END and ASLEEP: it stays in BACK");
        ChoiceBench x = Scene.oneIn(Due.BACK);
        Scene.twoGivesOneBack(x);
        Due.yes("cancel(1)", x.cancel(1));
        Due.is("word(1, 0)", x.word(1, 0), Due.OUT);
        Due.phase("taken back", x, 1, Due.BACK);
        Due.is("word(0, 2)", x.word(0, 2), 1);
        Due.until(x, 1, Due.DONE);
        Due.is("word(0, 0)", x.word(0, 0), Due.WAITING);
        Due.is("step(1)", x.step(1), 5);
    }

    private static void cancelWithoutEntries() {
        Due.sentence(8, "(also where WITHDRAW would follow): nothing was published yet");
        ChoiceBench x = Scene.oneIn(Due.PUBLISH);
        Due.yes("cancel(1)", x.cancel(1));
        Due.phase("DONE at once", x, 1, Due.DONE);
        Due.is("step(1)", x.step(1), 5);
        Due.is("count(4)", x.count(4), 0);
    }

    private static void cancelWithoutGuards() {
        Due.sentence(8, "(also where WITHDRAW would follow): in END and ASLEEP without GUARDS");
        for (int i = 0; i < 2; i++) {
            ChoiceBench x = new ChoiceBench(2);
            x.spawn(1);
            x.offer(1);
            Due.steps(x, 1, i);
            Due.phase("before", x, 1, i == 0 ? Due.END : Due.ASLEEP);
            Due.yes("cancel(1)", x.cancel(1));
            Due.phase("DONE at once", x, 1, Due.DONE);
            Due.is("step(1)", x.step(1), 5);
        }
    }

    private static void cancelWhenDue() {
        Due.sentence(8, "p is OVER because of it: though it is DUE, if it had no STEP since");
        ChoiceBench x = Scene.oneIn(Due.ASLEEP);
        Scene.ticks(x, 9);
        Due.yes("cancel(1)", x.cancel(1));
        x.step(1);
        Due.is("step(1)", x.step(1), 5);
    }

    private static void cancelIsNoStep() {
        Due.sentence(8, "p is taken back: it is no STEP");
        ChoiceBench x = Scene.oneIn(Due.ASLEEP);
        int steps = x.count(4);
        x.cancel(1);
        Due.is("count(4)", x.count(4), steps);
        Due.is("count(5)", x.count(5), 2);
    }

    private static void cancelOfNoProcess() {
        Due.sentence(8, "false if it is not OFFERING: no PROCESS");
        Scene.refusedOfNoProcess("cancel", (x, p) -> x.cancel(p), Due.ASLEEP);
    }

    private static void cancelOfOneNotOffering() {
        Due.sentence(8, "false if it is not OFFERING: GONE, IDLE, COMMITTED");
        Scene.refusedInAll("cancel(1)", x -> x.cancel(1), new int[] {Due.GONE, Due.IDLE, Due.DONE});
    }

    private static void cancelOfOneOver() {
        Due.sentence(8, "false if it is not OFFERING: OVER");
        ChoiceBench x = Scene.oneIn(Due.PUBLISH);
        Scene.ticks(x, 4);
        Due.is("step(1)", x.step(1), 3);
        Due.no("cancel(1)", x.cancel(1));
        Due.is("step(1), by time still", x.step(1), 3);
    }

    private static void cancelOfOneThatHoldsItself() {
        Due.sentence(8, "false if .. its WORD is not WAITING: CLAIMED by itself");
        Scene.refusedInAll("cancel(1)", x -> x.cancel(1), new int[] {Due.TELL, Due.OWN});
        ChoiceBench x = new ChoiceBench(4);
        Due.single(x, 3, Due.SEND, 0, 73);
        x.step(3);
        Scene.prepareOne(x);
        x.offer(1);
        Due.until(x, 1, Due.SECOND);
        Due.no("cancel(1) in SECOND, lower", x.cancel(1));
        Due.is("word(1, 2)", x.word(1, 2), 1);
        Due.until(x, 1, Due.DONE);
        Due.is("step(1)", x.step(1), 2);
    }

    private static void cancelOfOneClaimedByAnother() {
        Due.sentence(8, "false if .. its WORD is not WAITING: CLAIMED by another one");
        Scene.refused("cancel(1)", x -> x.cancel(1), Due.BACK);
        for (int phase : Scene.HEEDS_TIME) {
            ChoiceBench x = Scene.oneHeldIn(phase);
            Due.no("cancel(1) in PHASE " + phase, x.cancel(1));
            Scene.goesOnAs("cancel(1)", x, Scene.oneHeldIn(phase));
        }
    }

    private static ChoiceBench oneTakenIn(int phase) {
        ChoiceBench x = Scene.oneHeldIn(phase);
        Scene.twoTakesOne(x);
        return x;
    }

    private static void cancelOfOneTaken() {
        Due.sentence(8, "false if .. its WORD is not WAITING: TAKEN");
        Scene.refused("cancel(1)", x -> x.cancel(1), Due.WITHDRAW);
        for (int phase : Scene.HEEDS_TIME) {
            ChoiceBench x = oneTakenIn(phase);
            Due.no("cancel(1) in PHASE " + phase, x.cancel(1));
            Scene.goesOnAs("cancel(1)", x, oneTakenIn(phase));
        }
    }

    private static void cancelOfOneOut() {
        Due.sentence(8, "false if .. its WORD is not WAITING: OUT");
        for (int phase : new int[] {Due.SECOND, Due.ASLEEP}) {
            ChoiceBench x = Scene.oneIn(phase);
            ChoiceBench y = Scene.oneIn(phase);
            Due.yes("cancel(1)", x.cancel(1));
            Due.yes("cancel(1)", y.cancel(1));
            Due.no("cancel(1) again", x.cancel(1));
            Scene.goesOnAs("cancel(1) again", x, y);
        }
        ChoiceBench z = Scene.oneOutInLook();
        Due.no("cancel(1) in LOOK", z.cancel(1));
        Due.phase("it stays", z, 1, Due.LOOK);
    }

    private static void run() {
        Due.each(
                CancelAndRunEdgesTest::runTooSmall,
                CancelAndRunEdgesTest::runTooLarge,
                CancelAndRunEdgesTest::runOfNone,
                CancelAndRunEdgesTest::runOfOne,
                CancelAndRunEdgesTest::runOfFiveThousand,
                CancelAndRunEdgesTest::runWraps,
                CancelAndRunEdgesTest::runForgetsItsSeed,
                CancelAndRunEdgesTest::runPassesThoseNotOffering,
                CancelAndRunEdgesTest::runTellsItsPairs,
                CancelAndRunEdgesTest::runIsOverByTime);
    }

    private static void runRefused(int n) {
        for (int phase : new int[] {Due.PUBLISH, Due.SECOND, Due.ASLEEP}) {
            ChoiceBench x = Scene.oneIn(phase);
            Due.is("run(" + n + ", 1)", x.run(n, 1), NONE);
            Scene.goesOnAs("run(" + n + ", 1)", x, Scene.oneIn(phase));
        }
    }

    private static void runTooSmall() {
        Due.sentence(11, "NONE for another n: too small");
        for (int n : new int[] {-1, -2, -5000, Integer.MIN_VALUE}) {
            runRefused(n);
        }
    }

    private static void runTooLarge() {
        Due.sentence(11, "NONE for another n: too large");
        for (int n : new int[] {5001, 5002, 65536, Integer.MAX_VALUE}) {
            runRefused(n);
        }
    }

    private static void runOfNone() {
        Due.sentence(11, "n times (0 ..");
        for (int phase : new int[] {Due.PUBLISH, Due.SECOND, Due.ASLEEP}) {
            ChoiceBench x = Scene.oneIn(phase);
            Due.is("run(0, 1)", x.run(0, 1), 0);
            Scene.goesOnAs("run(0, 1)", x, Scene.oneIn(phase));
        }
    }

    /** All of them send on one CHANNEL, so nobody ever meets, and each turn is a STEP. */
    private static ChoiceBench senders(int processes) {
        ChoiceBench x = new ChoiceBench(processes);
        for (int p = 0; p < processes; p++) {
            Due.single(x, p, Due.SEND, 0, p);
        }
        return x;
    }

    private static int numberOf(int seed, int processes) {
        long next = (seed * 1103515245L + 12345L) & 0xffffffffL;
        return (int) ((next >> 16) % processes);
    }

    private static void runOfOne() {
        Due.sentence(11, "the PROCESS whose number is (seed shifted right by 16, without sign) modulo how many there are");
        int[] seeds = {0, 1, 2, 3, -1, -2, 7, 65536, -65536, Integer.MIN_VALUE, Integer.MAX_VALUE};
        for (int processes = 2; processes <= 16; processes++) {
            for (int seed : seeds) {
                ChoiceBench x = senders(processes);
                Due.is("run(1, " + seed + ")", x.run(1, seed), 0);
                for (int p = 0; p < processes; p++) {
                    int due = p == numberOf(seed, processes) ? Due.LOOK : Due.PUBLISH;
                    Due.is("run(1, " + seed + ") of " + processes + ": phase(" + p + ")", x.phase(p), due);
                }
            }
        }
    }

    private static void runOfFiveThousand() {
        Due.sentence(11, ".. 5000)");
        ChoiceBench x = senders(3);
        Due.is("run(5000, 9)", x.run(5000, 9), 0);
        Due.is("count(4)", x.count(4), 5000);
        Due.is("run(4999, 9)", x.run(4999, 9), 0);
        Due.is("count(4)", x.count(4), 9999);
    }

    private static void runWraps() {
        Due.sentence(11, "seed becomes seed * 1103515245 + 12345 (32 bits, it wraps)");
        int[] seeds = {0, 1, -1, 42, Integer.MIN_VALUE, Integer.MAX_VALUE};
        for (int from : seeds) {
            ChoiceBench x = senders(16);
            ChoiceBench y = senders(16);
            x.run(60, from);
            int seed = from;
            for (int i = 0; i < 60; i++) {
                y.step(numberOf(seed, 16));
                seed = (int) ((seed * 1103515245L + 12345L) & 0xffffffffL);
            }
            for (int p = 0; p < 16; p++) {
                Due.is("run(60, " + from + "): phase(" + p + ")", x.phase(p), y.phase(p));
                Due.is("run(60, " + from + "): entry(0, " + p + ", 0)", x.entry(0, p, 0), y.entry(0, p, 0));
            }
        }
    }

    private static void runForgetsItsSeed() {
        Due.sentence(11, "run(int n, int seed): each call has its own seed");
        ChoiceBench x = senders(16);
        int first = numberOf(5, 16);
        x.run(1, 5);
        Due.phase("run(1, 5)", x, first, Due.LOOK);
        x.run(1, 5);
        x.run(1, 5);
        Due.phase("run(1, 5) twice more", x, first, Due.END);
        Due.is("count(6)", x.count(6), 1);
    }

    private static void runPassesThoseNotOffering() {
        Due.sentence(11, "has a STEP, if it is OFFERING");
        ChoiceBench x = new ChoiceBench(4);
        x.spawn(1);
        x.spawn(2);
        x.offer(2);
        x.cancel(2);
        Due.is("GONE, IDLE, DONE, GONE: run(5000, 1)", x.run(5000, 1), 0);
        Due.is("count(4)", x.count(4), 0);
        int[] due = {Due.GONE, Due.IDLE, Due.DONE, Due.GONE};
        for (int p = 0; p < 4; p++) {
            Due.is("phase(" + p + ")", x.phase(p), due[p]);
        }
        x.spawn(3);
        x.offer(3);
        int turns = 0;
        int seed = 1;
        for (int i = 0; i < 5000; i++) {
            turns += numberOf(seed, 4) == 3 ? 1 : 0;
            seed = seed * 1103515245 + 12345;
        }
        x.run(5000, 1);
        Due.is("count(4), STEPS of 3 alone", x.count(4), turns);
    }

    private static void offerAll(ChoiceBench x) {
        for (int p = 0; p < 16; p++) {
            Due.single(x, p, p % 2, p / 2, p);
        }
    }

    private static void runTellsItsPairs() {
        Due.sentence(11, "how many PAIRS came");
        ChoiceBench x = new ChoiceBench(16);
        offerAll(x);
        int first = x.run(80, 2);
        Due.is("count(2)", x.count(2), first);
        Due.is("the rest of eight", x.run(5000, 3), 8 - first);
        Due.is("all have met", x.run(5000, 4), 0);
        for (int p = 0; p < 16; p++) {
            x.finish(p);
        }
        offerAll(x);
        Due.is("eight more, not sixteen", x.run(5000, 5), 8);
        Due.is("count(2)", x.count(2), 16);
    }

    private static void runIsOverByTime() {
        Due.sentence(11, "has a STEP: as it is told for step(), DUE or not");
        ChoiceBench x = Scene.oneIn(Due.ASLEEP);
        Scene.ticks(x, 4);
        Due.is("run(100, 1)", x.run(100, 1), 0);
        Due.is("step(1)", x.step(1), 3);
        Due.is("count(5)", x.count(5), 0);
    }
}
