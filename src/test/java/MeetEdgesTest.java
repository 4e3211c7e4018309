/** The edges that promise 7 names in CLAIM, SECOND, BACK, TELL and OWN: a test for each of them. */
public final class MeetEdgesTest {
    private static final int NONE = ChoiceBench.NONE;

    /** How the WORD of one that was found may be when it is TRIED. */
    private enum Now { CLAIMED, TAKEN, OUT, FREE, WAITING_ANEW, CLAIMED_ANEW, TAKEN_ANEW }

    public static void main(String[] args) {
        claim();
        second();
        back();
        tellAndOwn();
        Due.end();
    }

    /** 1 is in CLAIM or SECOND, after q, which is above 1 and sends on CHANNEL 0: its own WORD comes first. */
    private static ChoiceBench oneBelow(int q, int phase) {
        ChoiceBench x = new ChoiceBench(4);
        Due.single(x, q, Due.SEND, 0, 70 + q);
        Due.until(x, q, Due.ASLEEP);
        Scene.prepareOne(x);
        x.offer(1);
        Due.until(x, 1, phase);
        return x;
    }

    /** q, ASLEEP so far, is made so; 3 helps, for it is above q and so claims q first. */
    private static void make(ChoiceBench x, int q, Now now) {
        if (now == Now.OUT) {
            x.cancel(q);
        } else if (now == Now.CLAIMED || now == Now.TAKEN) {
            threeMeets(x, 0, now == Now.TAKEN);
        } else {
            x.cancel(q);
            x.step(q);
            x.finish(q);
            if (now != Now.FREE) {
                Due.single(x, q, Due.SEND, 6, 0);
                x.step(q);
            }
            if (now == Now.CLAIMED_ANEW || now == Now.TAKEN_ANEW) {
                threeMeets(x, 6, now == Now.TAKEN_ANEW);
            }
        }
    }

    private static void threeMeets(ChoiceBench x, int channel, boolean takes) {
        Due.single(x, 3, Due.RECEIVE, channel, 0);
        Due.until(x, 3, takes ? Due.OWN : Due.SECOND);
    }

    private static void claim() {
        Due.each(
                MeetEdgesTest::claimOfItsOwn,
                MeetEdgesTest::claimOfTheOther,
                MeetEdgesTest::claimFindsItsOwnTaken,
                MeetEdgesTest::claimFindsItsOwnOut,
                MeetEdgesTest::claimFindsItsOwnClaimed,
                MeetEdgesTest::claimFindsTheOtherClaimed,
                MeetEdgesTest::claimFindsTheOtherAtItsOwnClaim,
                MeetEdgesTest::claimFindsAnotherVersionClaimed,
                MeetEdgesTest::claimFindsTheOtherSettled,
                MeetEdgesTest::claimLeavesWhatItCantHave);
    }

    private static void claimOfItsOwn() {
        Due.sentence(7, "the WORD of the lower of p and q is TRIED: p is lower");
        ChoiceBench x = oneBelow(2, Due.CLAIM);
        Due.is("step(1)", x.step(1), 0);
        Due.phase("well", x, 1, Due.SECOND);
        Due.is("word(1, 2)", x.word(1, 2), 1);
        Due.is("word(2, 0)", x.word(2, 0), Due.WAITING);
        Due.is("count(7)", x.count(7), 1);
        Due.is("count(8)", x.count(8), 0);
    }

    private static void claimOfTheOther() {
        Due.sentence(7, "the WORD of the lower of p and q is TRIED: q is lower");
        ChoiceBench x = Scene.oneIn(Due.CLAIM);
        Due.is("step(1)", x.step(1), 0);
        Due.phase("well", x, 1, Due.SECOND);
        Due.is("word(0, 2)", x.word(0, 2), 1);
        Due.is("word(1, 0)", x.word(1, 0), Due.WAITING);
        Due.is("count(7)", x.count(7), 1);
        Due.is("count(8)", x.count(8), 0);
    }

    private static void claimFindsItsOwnTaken() {
        Due.sentence(7, "Else, if it was p's and is TAKEN .. WITHDRAW");
        ChoiceBench x = oneBelow(3, Due.CLAIM);
        Scene.twoHoldsOne(x);
        Scene.twoTakesOne(x);
        Due.is("step(1)", x.step(1), 0);
        Due.phase("TAKEN", x, 1, Due.WITHDRAW);
        Due.is("word(3, 0)", x.word(3, 0), Due.WAITING);
        x.step(1);
        Due.is("step(1)", x.step(1), 2);
    }

    private static void claimFindsItsOwnOut() {
        Due.sentence(7, "Else, if it was p's and is .. OUT: WITHDRAW");
        ChoiceBench x = Scene.oneOutInLook();
        Due.single(x, 3, Due.SEND, 0, 73);
        x.step(3);
        Due.until(x, 1, Due.CLAIM);
        Due.is("step(1)", x.step(1), 0);
        Due.phase("OUT", x, 1, Due.WITHDRAW);
        Due.is("word(3, 0)", x.word(3, 0), Due.WAITING);
        x.step(1);
        Due.is("step(1)", x.step(1), 5);
    }

    private static void claimFindsItsOwnClaimed() {
        Due.sentence(7, "CLAIM: else p is BUSY, if that WORD is CLAIMED: p's");
        ChoiceBench x = oneBelow(3, Due.CLAIM);
        Scene.twoHoldsOne(x);
        Due.is("step(1)", x.step(1), 0);
        Due.phase("CLAIMED", x, 1, Due.LOOK);
        Scene.looksAgain(x, 1);
    }

    private static void claimFindsTheOtherClaimed() {
        Due.sentence(7, "CLAIM: else p is BUSY, if that WORD is CLAIMED (of q: with that VERSION)");
        ChoiceBench x = Scene.oneIn(Due.CLAIM);
        make(x, 0, Now.CLAIMED);
        Due.is("step(1)", x.step(1), 0);
        Due.phase("CLAIMED", x, 1, Due.LOOK);
        Scene.looksAgain(x, 1);
    }

    private static void claimFindsTheOtherAtItsOwnClaim() {
        Due.sentence(7, "CLAIM: else p is BUSY, if that WORD is CLAIMED: by q itself");
        ChoiceBench x = new ChoiceBench(4);
        Due.single(x, 0, Due.SEND, 0, 70);
        Due.steps(x, 0, 2);
        Scene.prepareOne(x);
        x.offer(1);
        Due.until(x, 1, Due.CLAIM);
        Due.until(x, 0, Due.SECOND);
        Due.is("word(0, 2)", x.word(0, 2), 0);
        Due.is("step(1)", x.step(1), 0);
        Scene.looksAgain(x, 1);
    }

    private static void claimFindsAnotherVersionClaimed() {
        Due.sentence(7, "CLAIM: of q: with that VERSION: CLAIMED with another one");
        ChoiceBench x = Scene.oneIn(Due.CLAIM);
        make(x, 0, Now.CLAIMED_ANEW);
        Due.is("word(0, 2)", x.word(0, 2), 3);
        Due.is("step(1)", x.step(1), 0);
        Due.phase("CLAIMED anew", x, 1, Due.LOOK);
        Scene.fallsAsleep(x, 1);
    }

    private static void claimFindsTheOtherSettled() {
        Due.sentence(7, "CLAIM: and LOOK goes on: q is TAKEN, OUT, FREE or in another VERSION");
        Now[] all = {Now.TAKEN, Now.OUT, Now.FREE, Now.WAITING_ANEW, Now.TAKEN_ANEW};
        for (Now now : all) {
            ChoiceBench x = Scene.oneIn(Due.CLAIM);
            make(x, 0, now);
            Due.is("step(1), " + now, x.step(1), 0);
            Due.phase(now + "", x, 1, Due.LOOK);
            Due.is("word(1, 0), " + now, x.word(1, 0), Due.WAITING);
            Scene.fallsAsleep(x, 1);
        }
    }

    private static void claimLeavesWhatItCantHave() {
        Due.sentence(7, "if it is WAITING with that VERSION, it is CLAIMED by p .. else it stays: CLAIM");
        for (Now now : Now.values()) {
            ChoiceBench x = Scene.oneIn(Due.CLAIM);
            make(x, 0, now);
            leavesAsItWas(x, 0, now);
        }
        ChoiceBench y = oneBelow(3, Due.CLAIM);
        Scene.twoHoldsOne(y);
        leavesAsItWas(y, 1, Now.CLAIMED);
    }

    private static void leavesAsItWas(ChoiceBench x, int p, Now now) {
        int kind = x.word(p, 0);
        int version = x.word(p, 1);
        int claimer = x.word(p, 2);
        int tried = x.count(7);
        int failed = x.count(8);
        x.step(1);
        Due.is("word(" + p + ", 0), " + now, x.word(p, 0), kind);
        Due.is("word(" + p + ", 1), " + now, x.word(p, 1), version);
        Due.is("word(" + p + ", 2), " + now, x.word(p, 2), claimer);
        Due.is("count(7), " + now, x.count(7), tried + 1);
        Due.is("count(8), " + now, x.count(8), failed + 1);
    }

    private static void second() {
        Due.each(
                MeetEdgesTest::secondOfTheOther,
                MeetEdgesTest::secondOfItsOwn,
                MeetEdgesTest::secondFindsTheOtherClaimed,
                MeetEdgesTest::secondFindsAnotherVersionClaimed,
                MeetEdgesTest::secondFindsTheOtherSettled,
                MeetEdgesTest::secondFindsItsOwnClaimed,
                MeetEdgesTest::secondLeavesWhatItCantHave);
    }

    private static void secondOfTheOther() {
        Due.sentence(7, "the WORD of the higher one is TRIED likewise. Well: q is higher");
        ChoiceBench x = oneBelow(2, Due.SECOND);
        Due.is("step(1)", x.step(1), 0);
        Due.phase("a PAIR", x, 1, Due.TELL);
        Due.is("word(2, 2)", x.word(2, 2), 1);
        Due.is("word(1, 2)", x.word(1, 2), 1);
        Due.is("count(2)", x.count(2), 1);
    }

    private static void secondOfItsOwn() {
        Due.sentence(7, "the WORD of the higher one is TRIED likewise. Well: p is higher");
        ChoiceBench x = Scene.oneIn(Due.SECOND);
        Due.is("step(1)", x.step(1), 0);
        Due.phase("a PAIR", x, 1, Due.TELL);
        Due.is("word(0, 2)", x.word(0, 2), 1);
        Due.is("word(1, 2)", x.word(1, 2), 1);
        Due.is("count(2)", x.count(2), 1);
    }

    private static void secondFindsTheOtherClaimed() {
        Due.sentence(7, "SECOND: Else p is BUSY, if that WORD is CLAIMED (of q: with that VERSION)");
        ChoiceBench x = oneBelow(2, Due.SECOND);
        make(x, 2, Now.CLAIMED);
        Due.is("word(2, 2)", x.word(2, 2), 3);
        Due.is("step(1)", x.step(1), 0);
        Due.phase("CLAIMED", x, 1, Due.BACK);
        x.step(1);
        Due.phase("behind BACK", x, 1, Due.LOOK);
        Scene.looksAgain(x, 1);
    }

    private static void secondFindsAnotherVersionClaimed() {
        Due.sentence(7, "SECOND: of q: with that VERSION: CLAIMED with another one");
        ChoiceBench x = oneBelow(2, Due.SECOND);
        make(x, 2, Now.CLAIMED_ANEW);
        Due.is("word(2, 2)", x.word(2, 2), 3);
        Due.is("step(1)", x.step(1), 0);
        Due.phase("CLAIMED anew", x, 1, Due.BACK);
        x.step(1);
        Scene.fallsAsleep(x, 1);
    }

    private static void secondFindsTheOtherSettled() {
        Due.sentence(7, "SECOND: and BACK follows: q is TAKEN, OUT, FREE or in another VERSION");
        Now[] all = {Now.TAKEN, Now.OUT, Now.FREE, Now.WAITING_ANEW, Now.TAKEN_ANEW};
        for (Now now : all) {
            ChoiceBench x = oneBelow(2, Due.SECOND);
            make(x, 2, now);
            int pairs = x.count(2);
            Due.is("step(1), " + now, x.step(1), 0);
            Due.phase(now + "", x, 1, Due.BACK);
            Due.is("word(1, 2), " + now, x.word(1, 2), 1);
            Due.is("count(2), " + now, x.count(2), pairs);
            x.step(1);
            Scene.fallsAsleep(x, 1);
        }
    }

    private static void secondFindsItsOwnClaimed() {
        Due.sentence(7, "SECOND: Else p is BUSY, if that WORD is CLAIMED: p's");
        ChoiceBench x = Scene.oneIn(Due.BACK);
        Due.is("word(1, 2)", x.word(1, 2), 2);
        x.step(1);
        Due.phase("behind BACK", x, 1, Due.LOOK);
        Scene.looksAgain(x, 1);
    }

    private static void secondLeavesWhatItCantHave() {
        Due.sentence(7, "if it is WAITING with that VERSION, it is CLAIMED by p .. else it stays: SECOND");
        for (Now now : Now.values()) {
            ChoiceBench x = oneBelow(2, Due.SECOND);
            make(x, 2, now);
            leavesAsItWas(x, 2, now);
        }
        for (int i = 0; i < 2; i++) {
            ChoiceBench y = Scene.oneIn(Due.SECOND);
            Scene.twoHoldsOne(y);
            if (i == 1) {
                Scene.twoTakesOne(y);
            }
            leavesAsItWas(y, 1, i == 0 ? Now.CLAIMED : Now.TAKEN);
        }
        ChoiceBench z = Scene.oneIn(Due.SECOND);
        z.cancel(1);
        leavesAsItWas(z, 1, Now.OUT);
    }

    private static void back() {
        Due.each(
                MeetEdgesTest::backOfItsOwn,
                MeetEdgesTest::backOfTheOther,
                MeetEdgesTest::backWhenItsOwnWasTaken,
                MeetEdgesTest::backWhenItsOwnWasOut,
                MeetEdgesTest::backWhenItsOwnIsTakenSince,
                MeetEdgesTest::backWhenItsOwnIsOutSince,
                MeetEdgesTest::backWhenTheOtherWasTaken,
                MeetEdgesTest::backGoesOnAboveItsNumber);
    }

    private static void backOfItsOwn() {
        Due.sentence(7, "BACK: the WORD of the lower one is WAITING again: p is lower");
        ChoiceBench x = oneBelow(2, Due.SECOND);
        make(x, 2, Now.CLAIMED);
        x.step(1);
        Due.is("word(1, 2) in BACK", x.word(1, 2), 1);
        Due.is("step(1)", x.step(1), 0);
        Due.is("word(1, 0)", x.word(1, 0), Due.WAITING);
        Due.is("word(1, 2)", x.word(1, 2), NONE);
        Due.is("word(2, 2)", x.word(2, 2), 3);
    }

    private static void backOfTheOther() {
        Due.sentence(7, "BACK: the WORD of the lower one is WAITING again: q is lower");
        ChoiceBench x = Scene.oneIn(Due.BACK);
        Due.is("word(0, 2) in BACK", x.word(0, 2), 1);
        Due.is("step(1)", x.step(1), 0);
        Due.is("word(0, 0)", x.word(0, 0), Due.WAITING);
        Due.is("word(0, 2)", x.word(0, 2), NONE);
        Due.is("word(1, 2)", x.word(1, 2), 2);
    }

    private static void backWhenItsOwnWasTaken() {
        Due.sentence(7, "if p's WORD was TAKEN .. when it was TRIED in SECOND: WITHDRAW");
        ChoiceBench x = Scene.oneIn(Due.SECOND);
        Scene.twoHoldsOne(x);
        Scene.twoTakesOne(x);
        x.step(1);
        Due.phase("TAKEN", x, 1, Due.BACK);
        Due.is("step(1)", x.step(1), 0);
        Due.phase("behind BACK", x, 1, Due.WITHDRAW);
        Due.is("word(0, 0)", x.word(0, 0), Due.WAITING);
        x.step(1);
        Due.is("step(1)", x.step(1), 2);
    }

    private static void backWhenItsOwnWasOut() {
        Due.sentence(7, "if p's WORD was .. OUT when it was TRIED in SECOND: WITHDRAW");
        ChoiceBench x = Scene.oneIn(Due.SECOND);
        x.cancel(1);
        x.step(1);
        Due.phase("OUT", x, 1, Due.BACK);
        Due.is("step(1)", x.step(1), 0);
        Due.phase("behind BACK", x, 1, Due.WITHDRAW);
        Due.is("word(0, 0)", x.word(0, 0), Due.WAITING);
        x.step(1);
        Due.is("step(1)", x.step(1), 5);
    }

    private static void backWhenItsOwnIsTakenSince() {
        Due.sentence(7, "when it was TRIED in SECOND: TAKEN only since then, LOOK goes on");
        ChoiceBench x = Scene.oneIn(Due.BACK);
        Scene.twoTakesOne(x);
        Due.is("step(1)", x.step(1), 0);
        Due.phase("behind BACK", x, 1, Due.LOOK);
        Due.is("word(1, 0)", x.word(1, 0), Due.TAKEN);
    }

    private static void backWhenItsOwnIsOutSince() {
        Due.sentence(7, "when it was TRIED in SECOND: OUT only since then, LOOK goes on");
        ChoiceBench x = Scene.oneIn(Due.BACK);
        Scene.twoGivesOneBack(x);
        x.cancel(1);
        Due.is("step(1)", x.step(1), 0);
        Due.phase("behind BACK", x, 1, Due.LOOK);
        Due.is("word(1, 0)", x.word(1, 0), Due.OUT);
    }

    private static void backWhenTheOtherWasTaken() {
        Due.sentence(7, "if p's WORD was TAKEN or OUT: q's does not count");
        for (Now now : new Now[] {Now.TAKEN, Now.OUT}) {
            ChoiceBench x = oneBelow(2, Due.SECOND);
            make(x, 2, now);
            Due.steps(x, 1, 2);
            Due.phase("behind BACK, q was " + now, x, 1, Due.LOOK);
            Due.is("word(1, 0)", x.word(1, 0), Due.WAITING);
        }
    }

    private static void backGoesOnAboveItsNumber() {
        Due.sentence(7, "BACK: else LOOK goes on: behind what it has read");
        ChoiceBench x = oneBelow(2, Due.SECOND);
        x.cancel(2);
        Due.steps(x, 1, 2);
        Due.phase("behind BACK", x, 1, Due.LOOK);
        x.step(1);
        Due.phase("its own", x, 1, Due.LOOK);
        x.step(1);
        Due.phase("none", x, 1, Due.END);
    }

    private static void tellAndOwn() {
        Due.each(
                MeetEdgesTest::tellOneThatReceives,
                MeetEdgesTest::tellOneThatSends,
                MeetEdgesTest::ownOfOneThatReceives,
                MeetEdgesTest::ownOfOneThatSends,
                MeetEdgesTest::ownWhenTheOtherHasLeft);
    }

    /** 2 is found by 1, which is lower, or by 3, which is higher, on CHANNEL 7, and told of it. */
    private static ChoiceBench told(int p, int kind, int value) {
        ChoiceBench x = new ChoiceBench(4);
        Due.single(x, 2, 1 - kind, 7, kind == Due.RECEIVE ? value : 99);
        Due.until(x, 2, Due.ASLEEP);
        Due.single(x, p, kind, 7, kind == Due.SEND ? value : 98);
        Due.until(x, p, Due.TELL);
        Due.is("outcome(2, 0) before TELL", x.outcome(2, 0), NONE);
        Due.is("step(" + p + ") in TELL", x.step(p), 0);
        Due.phase("behind TELL", x, p, Due.OWN);
        return x;
    }

    private static final int[] VALUES = {0, 1, -1, 77, Integer.MIN_VALUE, Integer.MAX_VALUE};

    private static void tellOneThatReceives() {
        Due.sentence(7, "TELL: what it got is p's value, if p sends");
        for (int p = 1; p <= 3; p += 2) {
            for (int value : VALUES) {
                ChoiceBench x = told(p, Due.SEND, value);
                Due.is("word(2, 0)", x.word(2, 0), Due.TAKEN);
                Due.is("outcome(2, 0)", x.outcome(2, 0), p);
                Due.is("outcome(2, 1)", x.outcome(2, 1), 7);
                Due.is("outcome(2, 2)", x.outcome(2, 2), value);
                Due.is("outcome(" + p + ", 0)", x.outcome(p, 0), NONE);
            }
        }
    }

    private static void tellOneThatSends() {
        Due.sentence(7, "TELL: 0 if q sends");
        for (int p = 1; p <= 3; p += 2) {
            ChoiceBench x = told(p, Due.RECEIVE, 77);
            Due.is("word(2, 0)", x.word(2, 0), Due.TAKEN);
            Due.is("outcome(2, 0)", x.outcome(2, 0), p);
            Due.is("outcome(2, 2)", x.outcome(2, 2), 0);
        }
    }

    private static void ownOfOneThatReceives() {
        Due.sentence(7, "OWN: what it got is the ENTRY's value, if p receives");
        for (int p = 1; p <= 3; p += 2) {
            for (int value : VALUES) {
                ChoiceBench x = told(p, Due.RECEIVE, value);
                Due.is("step(" + p + ") in OWN", x.step(p), 0);
                Due.phase("behind OWN", x, p, Due.WITHDRAW);
                Due.is("word(" + p + ", 0)", x.word(p, 0), Due.TAKEN);
                Due.is("outcome(" + p + ", 0)", x.outcome(p, 0), 2);
                Due.is("outcome(" + p + ", 1)", x.outcome(p, 1), 7);
                Due.is("outcome(" + p + ", 2)", x.outcome(p, 2), value);
            }
        }
    }

    private static void ownOfOneThatSends() {
        Due.sentence(7, "OWN: 0 if p sends");
        for (int p = 1; p <= 3; p += 2) {
            ChoiceBench x = told(p, Due.SEND, 77);
            x.step(p);
            Due.is("outcome(" + p + ", 0)", x.outcome(p, 0), 2);
            Due.is("outcome(" + p + ", 2)", x.outcome(p, 2), 0);
        }
    }

    private static void ownWhenTheOtherHasLeft() {
        Due.sentence(7, "CLAIM follows, with q, the VERSION and value there: q has gone since TELL");
        ChoiceBench x = told(1, Due.RECEIVE, 77);
        Due.until(x, 2, Due.DONE);
        x.finish(2);
        x.guard(2, Due.SEND, 7, 55, true);
        x.offer(2);
        x.step(2);
        Due.is("step(1) in OWN", x.step(1), 0);
        Due.is("outcome(1, 0)", x.outcome(1, 0), 2);
        Due.is("outcome(1, 2)", x.outcome(1, 2), 77);
        Due.is("word(2, 0), anew", x.word(2, 0), Due.WAITING);
        Due.is("outcome(2, 3)", x.outcome(2, 3), 1);
    }
}
