/** Promises 1 to 6, 9 and 10: a new object, spawn, quit, guard, timeout, offer, finish, tick. */
public final class LifeTest {
    public static void main(String[] args) {
        newObject();
        spawn();
        spawnForgets();
        quit();
        guard();
        guardLimits();
        timeoutLimits();
        offer();
        offerSkipsWhatIsOff();
        finish();
        finishForgets();
        tick();
        Due.end();
    }

    private static void newObject() {
        int[] asked = {Integer.MIN_VALUE, -1, 0, 1, 2, 3, 9, 15, 16, 17, 1000, Integer.MAX_VALUE};
        int[] made = {2, 2, 2, 2, 2, 3, 9, 15, 16, 16, 16, 16};
        for (int i = 0; i < asked.length; i++) {
            ChoiceBench x = new ChoiceBench(asked[i]);
            Due.is("new(" + asked[i] + ") count(0)", x.count(0), made[i]);
            for (int p = 0; p < made[i]; p++) {
                Due.is("new phase", x.phase(p), Due.GONE);
                Due.is("new word kind", x.word(p, 0), Due.FREE);
                Due.is("new word version", x.word(p, 1), 0);
                Due.is("new word claimer", x.word(p, 2), ChoiceBench.NONE);
            }
            Due.is("phase behind the last", x.phase(made[i]), ChoiceBench.NONE);
            for (int what = 1; what <= 8; what++) {
                Due.is("new count(" + what + ")", x.count(what), 0);
            }
        }
    }

    private static void spawn() {
        ChoiceBench x = new ChoiceBench(3);
        Due.yes("spawn(2)", x.spawn(2));
        Due.phase("spawned", x, 2, Due.IDLE);
        Due.phase("not spawned", x, 0, Due.GONE);
        Due.no("spawn of an IDLE one", x.spawn(2));
        Due.no("spawn(-1)", x.spawn(-1));
        Due.no("spawn(3)", x.spawn(3));
        Due.no("spawn(MIN)", x.spawn(Integer.MIN_VALUE));
        Due.no("spawn(MAX)", x.spawn(Integer.MAX_VALUE));
        x.offer(2);
        Due.no("spawn of an OFFERING one", x.spawn(2));
        Due.phase("refused", x, 2, Due.END);
        x.cancel(2);
        Due.no("spawn of a DONE one", x.spawn(2));
        Due.phase("refused", x, 2, Due.DONE);
    }

    private static void spawnForgets() {
        ChoiceBench x = new ChoiceBench(2);
        x.spawn(0);
        x.guard(0, Due.SEND, 0, 1, true);
        x.timeout(0, 1);
        Due.yes("quit", x.quit(0));
        Due.yes("spawn again", x.spawn(0));
        Due.yes("offer", x.offer(0));
        Due.phase("no GUARD is left", x, 0, Due.END);
        x.tick();
        x.tick();
        Due.is("no time-out is left", x.step(0), 1);
    }

    private static void quit() {
        ChoiceBench x = new ChoiceBench(2);
        Due.no("quit of a GONE one", x.quit(0));
        Due.no("quit(-1)", x.quit(-1));
        Due.no("quit(2)", x.quit(2));
        x.spawn(0);
        x.offer(0);
        Due.no("quit of an OFFERING one", x.quit(0));
        x.cancel(0);
        Due.no("quit of a DONE one", x.quit(0));
        Due.phase("refused", x, 0, Due.DONE);
        x.finish(0);
        Due.yes("quit of an IDLE one", x.quit(0));
        Due.phase("quit", x, 0, Due.GONE);
        Due.is("the VERSION stays", x.word(0, 1), 1);
        x.spawn(0);
        x.offer(0);
        Due.is("the VERSION goes on", x.word(0, 1), 2);
    }

    private static void guard() {
        ChoiceBench x = new ChoiceBench(2);
        Due.no("guard of a GONE one", x.guard(0, 0, 0, 0, true));
        x.spawn(0);
        Due.no("guard(-1, ..)", x.guard(-1, 0, 0, 0, true));
        Due.no("guard(2, ..)", x.guard(2, 0, 0, 0, true));
        Due.no("kind -1", x.guard(0, -1, 0, 0, true));
        Due.no("kind 2", x.guard(0, 2, 0, 0, true));
        Due.no("channel -1", x.guard(0, 0, -1, 0, true));
        Due.no("channel 8", x.guard(0, 0, 8, 0, true));
        Due.no("channel MIN", x.guard(0, 1, Integer.MIN_VALUE, 0, true));
        Due.yes("channel 7", x.guard(0, 0, 7, Integer.MIN_VALUE, true));
        Due.yes("channel 0", x.guard(0, 1, 0, Integer.MAX_VALUE, true));
        x.offer(0);
        Due.no("guard of an OFFERING one", x.guard(0, 0, 0, 0, true));
        Due.steps(x, 0, 2);
        Due.is("both and no other are published", x.count(6), 2);
        Due.is("sends", x.entry(7, 0, 1), Due.SEND);
        Due.is("value", x.entry(7, 0, 2), Integer.MIN_VALUE);
        Due.is("receives", x.entry(0, 0, 1), Due.RECEIVE);
        Due.is("a receiver's value is published too", x.entry(0, 0, 2), Integer.MAX_VALUE);
        x.cancel(0);
        Due.steps(x, 0, 2);
        Due.phase("taken back", x, 0, Due.DONE);
        Due.no("guard of a DONE one", x.guard(0, 0, 0, 0, true));
    }

    private static void guardLimits() {
        ChoiceBench x = new ChoiceBench(2);
        x.spawn(1);
        for (int i = 0; i < 8; i++) {
            Due.yes("guard " + i, x.guard(1, i % 2, i, 10 + i, i % 3 != 1));
        }
        Due.no("a ninth", x.guard(1, 0, 0, 99, true));
        Due.no("a ninth that is not ON", x.guard(1, 0, 0, 99, false));
        x.offer(1);
        Due.until(x, 1, Due.LOOK);
        Due.is("those that are ON", x.count(6), 5);
        for (int i = 0; i < 8; i++) {
            Due.is("entry(" + i + ", 0, 2)", x.entry(i, 0, 2), i % 3 == 1 ? ChoiceBench.NONE : 10 + i);
        }
    }

    private static void timeoutLimits() {
        ChoiceBench x = new ChoiceBench(2);
        Due.no("timeout of a GONE one", x.timeout(0, 1));
        x.spawn(0);
        Due.yes("timeout 0", x.timeout(0, 0));
        Due.yes("timeout 1000", x.timeout(0, 1000));
        Due.yes("timeout 1", x.timeout(0, 1));
        Due.no("timeout -1", x.timeout(0, -1));
        Due.no("timeout 1001", x.timeout(0, 1001));
        Due.no("timeout MIN", x.timeout(0, Integer.MIN_VALUE));
        Due.no("timeout MAX", x.timeout(0, Integer.MAX_VALUE));
        Due.no("timeout(-1, 1)", x.timeout(-1, 1));
        Due.no("timeout(2, 1)", x.timeout(2, 1));
        x.offer(0);
        Due.no("timeout of an OFFERING one", x.timeout(0, 0));
        x.tick();
        Due.is("the last one that was taken counts", x.step(0), 3);
        Due.no("timeout of a DONE one", x.timeout(0, 1));
    }

    private static void offer() {
        ChoiceBench x = new ChoiceBench(2);
        Due.no("offer of a GONE one", x.offer(0));
        Due.no("offer(-1)", x.offer(-1));
        Due.no("offer(2)", x.offer(2));
        x.spawn(0);
        x.guard(0, Due.SEND, 2, 5, true);
        Due.yes("offer", x.offer(0));
        Due.phase("offered", x, 0, Due.PUBLISH);
        Due.is("WAITING", x.word(0, 0), Due.WAITING);
        Due.is("VERSION", x.word(0, 1), 1);
        Due.is("nobody CLAIMED it", x.word(0, 2), ChoiceBench.NONE);
        Due.is("nothing is published yet", x.count(6), 0);
        Due.is("an offer is no STEP", x.count(4), 0);
        Due.no("offer of an OFFERING one", x.offer(0));
        Due.is("refused", x.word(0, 1), 1);
        x.cancel(0);
        Due.no("offer of a DONE one", x.offer(0));
        Due.is("refused", x.word(0, 1), 1);
        x.finish(0);
        // Three calls an OFFER: 1000 VERSIONS can't be reached in 512 calls, 150 can.
        for (int i = 0; i < 150; i++) {
            x.offer(0);
            x.cancel(0);
            x.finish(0);
        }
        Due.is("VERSIONS", x.word(0, 1), 151);
    }

    private static void offerSkipsWhatIsOff() {
        ChoiceBench x = new ChoiceBench(2);
        x.spawn(0);
        x.guard(0, Due.SEND, 0, 1, false);
        x.guard(0, Due.SEND, 1, 2, true);
        x.guard(0, Due.SEND, 2, 3, false);
        x.guard(0, Due.SEND, 3, 4, true);
        x.guard(0, Due.SEND, 4, 5, false);
        x.offer(0);
        Due.phase("at the second GUARD", x, 0, Due.PUBLISH);
        Due.is("PUBLISH", x.step(0), 0);
        Due.is("the first that is ON", x.entry(1, 0, 3), 1);
        Due.phase("one more", x, 0, Due.PUBLISH);
        Due.is("PUBLISH", x.step(0), 0);
        Due.is("the next that is ON", x.entry(3, 0, 3), 2);
        Due.phase("behind the last", x, 0, Due.LOOK);
        Due.is("all", x.count(5), 2);
        // Each of two LISTS: its own ENTRY, then none.
        Due.steps(x, 0, 3);
        Due.phase("three LOOKS", x, 0, Due.LOOK);
        x.step(0);
        Due.phase("four LOOKS", x, 0, Due.END);

        ChoiceBench y = new ChoiceBench(2);
        y.spawn(0);
        y.guard(0, Due.SEND, 0, 1, false);
        y.offer(0);
        Due.phase("no GUARD is ON", y, 0, Due.END);
        Due.is("END", y.step(0), 1);
        Due.is("nothing is published", y.count(6), 0);
    }

    private static void finish() {
        ChoiceBench x = new ChoiceBench(2);
        Due.no("finish of a GONE one", x.finish(0));
        Due.no("finish(-1)", x.finish(-1));
        Due.no("finish(2)", x.finish(2));
        x.spawn(0);
        Due.no("finish of an IDLE one", x.finish(0));
        x.offer(0);
        Due.no("finish of an OFFERING one", x.finish(0));
        x.cancel(0);
        Due.is("OUT", x.word(0, 0), Due.OUT);
        Due.yes("finish of a DONE one", x.finish(0));
        Due.phase("finished", x, 0, Due.IDLE);
        Due.is("FREE", x.word(0, 0), Due.FREE);
        Due.is("the VERSION stays", x.word(0, 1), 1);
        Due.no("finish again", x.finish(0));
    }

    private static void finishForgets() {
        ChoiceBench x = new ChoiceBench(2);
        x.spawn(0);
        for (int i = 0; i < 8; i++) {
            x.guard(0, Due.SEND, 0, 1, true);
        }
        x.timeout(0, 1);
        x.offer(0);
        x.cancel(0);
        Due.yes("finish", x.finish(0));
        Due.yes("there is room for GUARDS again", x.guard(0, Due.RECEIVE, 5, 6, true));
        x.offer(0);
        x.step(0);
        Due.is("one GUARD, one ENTRY", x.count(5), 1);
        Due.phase("one GUARD", x, 0, Due.LOOK);
        x.tick();
        x.tick();
        Due.steps(x, 0, 2);
        Due.is("no time-out", x.step(0), 1);
    }

    private static void tick() {
        ChoiceBench x = new ChoiceBench(2);
        Due.is("CLOCK", x.count(3), 0);
        for (int i = 1; i <= 100; i++) {
            Due.is("tick", x.tick(), i);
            Due.is("CLOCK", x.count(3), i);
        }
        Due.is("a tick is no STEP", x.count(4), 0);
    }
}
