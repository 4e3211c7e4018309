/** The edges that promises 12 to 20 name, and what they refuse: a test for each of them. */
public final class TellEdgesTest {
    private static final int NONE = ChoiceBench.NONE;
    private static final int MIN = Integer.MIN_VALUE;
    private static final int MAX = Integer.MAX_VALUE;

    public static void main(String[] args) {
        phase();
        word();
        outcome();
        entry();
        pair();
        doubles();
        unmet();
        held();
        count();
        Due.each(TellEdgesTest::tellingChangesNothing);
        Due.end();
    }

    private static void phase() {
        Due.each(
                TellEdgesTest::phaseOfEach,
                TellEdgesTest::phaseOfNoProcess);
    }

    private static void phaseOfEach() {
        Due.sentence(12, "0 GONE, 1 IDLE, 2 PUBLISH, 3 LOOK, 4 CLAIM, 5 SECOND, 6 BACK, 7 TELL, 8 OWN, 9 END, "
                + "10 ASLEEP, 11 WITHDRAW, 12 DONE");
        ChoiceBench x = new ChoiceBench(3);
        Due.is("phase(1)", x.phase(1), 0);
        Scene.prepareOne(x);
        Due.is("phase(1)", x.phase(1), 1);
        x.offer(1);
        int[] due = {2, 2, 3, 3, 3, 3, 9, 10, 10};
        for (int i = 0; i < due.length; i++) {
            Due.is("phase(1) behind " + i + " STEPS", x.phase(1), due[i]);
            x.step(1);
        }
        Due.single(x, 2, Due.RECEIVE, 1, 0);
        int[] claims = {2, 3, 4, 5, 7, 8, 11, 12, 12};
        for (int i = 0; i < claims.length; i++) {
            Due.is("phase(2) behind " + i + " STEPS", x.phase(2), claims[i]);
            x.step(2);
        }
        ChoiceBench y = Scene.oneIn(Due.SECOND);
        Scene.twoHoldsOne(y);
        y.step(1);
        Due.is("phase(1) in BACK", y.phase(1), 6);
    }

    private static void phaseOfNoProcess() {
        Due.sentence(12, "NONE if p is none");
        ChoiceBench x = new ChoiceBench(4);
        for (int p : Scene.NO_PROCESS) {
            Due.is("phase(" + p + ")", x.phase(p), NONE);
        }
        for (int many = 2; many <= 16; many++) {
            ChoiceBench y = new ChoiceBench(many);
            Due.is("phase(" + (many - 1) + ") of " + many, y.phase(many - 1), Due.GONE);
            Due.is("phase(" + many + ") of " + many, y.phase(many), NONE);
        }
    }

    private static void word() {
        Due.each(
                TellEdgesTest::wordOfEachKind,
                TellEdgesTest::wordClaimedByZero,
                TellEdgesTest::wordNotClaimed,
                TellEdgesTest::wordOfNoPart,
                TellEdgesTest::wordOfNoProcess);
    }

    private static void wordOfEachKind() {
        Due.sentence(13, "0 FREE, 1 WAITING, 2 CLAIMED (by a PROCESS), 3 TAKEN, 4 OUT");
        ChoiceBench x = Scene.oneIn(Due.IDLE);
        Due.is("word(1, 0)", x.word(1, 0), 0);
        x.offer(1);
        Due.is("word(1, 0)", x.word(1, 0), 1);
        x.step(1);
        Scene.twoHoldsOne(x);
        Due.is("word(1, 0)", x.word(1, 0), 2);
        Due.until(x, 2, Due.OWN);
        Due.is("word(1, 0)", x.word(1, 0), 3);
        ChoiceBench y = Scene.oneIn(Due.LOOK);
        y.cancel(1);
        Due.is("word(1, 0)", y.word(1, 0), 4);
    }

    private static void wordClaimedByZero() {
        Due.sentence(13, "2 who CLAIMED it: the first PROCESS, itself, the last one");
        ChoiceBench x = new ChoiceBench(16);
        Due.single(x, 15, Due.SEND, 0, 5);
        x.step(15);
        Due.single(x, 0, Due.RECEIVE, 0, 0);
        Due.until(x, 0, Due.TELL);
        Due.is("word(0, 2)", x.word(0, 2), 0);
        Due.is("word(15, 2)", x.word(15, 2), 0);
        ChoiceBench y = new ChoiceBench(16);
        Due.single(y, 0, Due.SEND, 0, 5);
        y.step(0);
        Due.single(y, 15, Due.RECEIVE, 0, 0);
        Due.until(y, 15, Due.TELL);
        Due.is("word(0, 2)", y.word(0, 2), 15);
        Due.is("word(15, 2)", y.word(15, 2), 15);
    }

    private static void wordNotClaimed() {
        Due.sentence(13, "NONE if it is not CLAIMED");
        ChoiceBench x = Scene.oneIn(Due.GONE);
        Due.is("word(1, 2), FREE", x.word(1, 2), NONE);
        ChoiceBench y = Scene.oneHeldIn(Due.ASLEEP);
        Scene.twoGivesOneBack(y);
        Due.is("word(1, 2), given back", y.word(1, 2), NONE);
        y.cancel(1);
        Due.is("word(1, 2), OUT", y.word(1, 2), NONE);
        ChoiceBench z = Scene.oneHeldIn(Due.ASLEEP);
        Scene.twoTakesOne(z);
        Due.is("word(1, 2), TAKEN", z.word(1, 2), NONE);
        z.step(2);
        Due.is("word(2, 2), TAKEN", z.word(2, 2), NONE);
        Due.until(z, 1, Due.DONE);
        z.finish(1);
        Due.is("word(1, 2), FREE again", z.word(1, 2), NONE);
    }

    private static void wordOfNoPart() {
        Due.sentence(13, "NONE for others: no such part");
        ChoiceBench x = Scene.oneIn(Due.TELL);
        for (int what : new int[] {-1, 3, 4, 256, MIN, MAX}) {
            Due.is("word(1, " + what + ")", x.word(1, what), NONE);
        }
    }

    private static void wordOfNoProcess() {
        Due.sentence(13, "NONE for others: no such PROCESS");
        ChoiceBench x = Scene.oneIn(Due.TELL);
        for (int p : Scene.NO_PROCESS) {
            for (int what = 0; what < 3; what++) {
                Due.is("word(" + p + ", " + what + ")", x.word(p, what), NONE);
            }
        }
    }

    private static void outcome() {
        Due.each(
                TellEdgesTest::outcomeOfNoPair,
                TellEdgesTest::outcomeBeforeItIsTold,
                TellEdgesTest::outcomeStays,
                TellEdgesTest::outcomeOfTheLatest,
                TellEdgesTest::outcomeOfItsVersionThen,
                TellEdgesTest::outcomeOfNoPart,
                TellEdgesTest::outcomeOfNoProcess);
    }

    private static void hasOutcome(ChoiceBench x, int p, int[] due) {
        for (int what = 0; what < 4; what++) {
            Due.is("outcome(" + p + ", " + what + ")", x.outcome(p, what), due[what]);
        }
    }

    private static final int[] NO_OUTCOME = {NONE, NONE, NONE, NONE};

    private static void outcomeOfNoPair() {
        Due.sentence(14, "NONE .. if there was none");
        ChoiceBench x = Scene.oneIn(Due.GONE);
        hasOutcome(x, 1, NO_OUTCOME);
        ChoiceBench y = Scene.oneIn(Due.PUBLISH);
        y.cancel(1);
        hasOutcome(y, 1, NO_OUTCOME);
    }

    private static void outcomeBeforeItIsTold() {
        Due.sentence(14, "that p was told of (by TELL or OWN");
        ChoiceBench x = Scene.oneIn(Due.TELL);
        hasOutcome(x, 0, NO_OUTCOME);
        hasOutcome(x, 1, NO_OUTCOME);
        x.step(1);
        hasOutcome(x, 0, new int[] {1, 0, 0, 1});
        hasOutcome(x, 1, NO_OUTCOME);
        x.step(1);
        hasOutcome(x, 1, new int[] {0, 0, 70, 1});
    }

    private static void outcomeStays() {
        Due.sentence(14, "in whatever OFFER");
        ChoiceBench x = Scene.oneIn(Due.DONE);
        int[] due = {0, 0, 70, 1};
        hasOutcome(x, 1, due);
        x.finish(1);
        hasOutcome(x, 1, due);
        x.quit(1);
        hasOutcome(x, 1, due);
        x.spawn(1);
        hasOutcome(x, 1, due);
        x.offer(1);
        hasOutcome(x, 1, due);
        x.cancel(1);
        hasOutcome(x, 1, due);
    }

    private static void outcomeOfTheLatest() {
        Due.sentence(14, "Of the latest PAIR");
        ChoiceBench x = Scene.oneIn(Due.DONE);
        x.finish(1);
        Due.single(x, 3, Due.RECEIVE, 6, 0);
        x.step(3);
        Due.single(x, 1, Due.SEND, 6, 44);
        Due.until(x, 1, Due.OWN);
        hasOutcome(x, 1, new int[] {0, 0, 70, 1});
        x.step(1);
        hasOutcome(x, 1, new int[] {3, 6, 0, 2});
        hasOutcome(x, 3, new int[] {1, 6, 44, 1});
        hasOutcome(x, 0, new int[] {1, 0, 0, 1});
    }

    private static void outcomeOfItsVersionThen() {
        Due.sentence(14, "3 its VERSION then");
        ChoiceBench x = new ChoiceBench(2);
        for (int i = 0; i < 4; i++) {
            x.spawn(1);
            x.offer(1);
            x.cancel(1);
            x.finish(1);
        }
        Due.single(x, 0, Due.SEND, 0, 1);
        x.step(0);
        Due.single(x, 1, Due.RECEIVE, 0, 0);
        Due.until(x, 1, Due.DONE);
        Due.is("outcome(0, 3)", x.outcome(0, 3), 1);
        Due.is("outcome(1, 3)", x.outcome(1, 3), 5);
        x.finish(1);
        x.offer(1);
        Due.is("word(1, 1)", x.word(1, 1), 6);
        Due.is("outcome(1, 3)", x.outcome(1, 3), 5);
    }

    private static void outcomeOfNoPart() {
        Due.sentence(14, "NONE for others: no such part");
        ChoiceBench x = Scene.oneIn(Due.DONE);
        for (int what : new int[] {-1, 4, 5, 256, MIN, MAX}) {
            Due.is("outcome(1, " + what + ")", x.outcome(1, what), NONE);
        }
    }

    private static void outcomeOfNoProcess() {
        Due.sentence(14, "NONE for others: no such PROCESS");
        ChoiceBench x = new ChoiceBench(4);
        Due.single(x, 0, Due.SEND, 0, 5);
        x.step(0);
        Due.single(x, 3, Due.RECEIVE, 0, 0);
        Due.until(x, 3, Due.DONE);
        hasOutcome(x, 0, new int[] {3, 0, 0, 1});
        hasOutcome(x, 3, new int[] {0, 0, 5, 1});
        for (int p : Scene.NO_PROCESS) {
            hasOutcome(x, p, NO_OUTCOME);
        }
    }

    private static void entry() {
        Due.each(
                TellEdgesTest::entryOfNoChannel,
                TellEdgesTest::entryTooLow,
                TellEdgesTest::entryTooHigh,
                TellEdgesTest::entryOfAFullList,
                TellEdgesTest::entryOfAnEmptyList,
                TellEdgesTest::entryOfNoPart,
                TellEdgesTest::entryMovesUp,
                TellEdgesTest::entryOfEachPart);
    }

    private static void noEntry(ChoiceBench x, int channel, int i) {
        for (int what = 0; what < 5; what++) {
            Due.is("entry(" + channel + ", " + i + ", " + what + ")", x.entry(channel, i, what), NONE);
        }
    }

    private static void entryOfNoChannel() {
        Due.sentence(15, "NONE .. if there is none such: no such CHANNEL");
        ChoiceBench x = new ChoiceBench(2);
        x.spawn(0);
        x.guard(0, Due.SEND, 0, 5, true);
        x.guard(0, Due.SEND, 7, 6, true);
        x.offer(0);
        Due.until(x, 0, Due.LOOK);
        for (int channel : new int[] {-1, 8, 9, 256, MIN, MAX}) {
            noEntry(x, channel, 0);
        }
    }

    private static void entryTooLow() {
        Due.sentence(15, "from 0 on .. NONE .. if there is none such: i is too low");
        ChoiceBench x = Scene.oneIn(Due.LOOK);
        Due.is("entry(1, 0, 0)", x.entry(1, 0, 0), 1);
        for (int i : new int[] {-1, -2, -128, MIN}) {
            noEntry(x, 1, i);
        }
    }

    private static void entryTooHigh() {
        Due.sentence(15, "NONE .. if there is none such: i is too high");
        ChoiceBench x = Scene.oneIn(Due.LOOK);
        Due.is("entry(1, 0, 0)", x.entry(1, 0, 0), 1);
        for (int i : new int[] {1, 2, 127, 128, 1000, MAX}) {
            noEntry(x, 1, i);
        }
    }

    private static void entryOfAFullList() {
        Due.sentence(15, "Of the i-th ENTRY of a CHANNEL's LIST: all GUARDS of all PROCESSES on one");
        ChoiceBench x = new ChoiceBench(16);
        for (int p = 0; p < 16; p++) {
            x.spawn(p);
            for (int g = 0; g < 8; g++) {
                x.guard(p, Due.RECEIVE, 7, 10 * p + g, true);
            }
            x.offer(p);
        }
        x.run(5000, 1);
        Due.is("count(5)", x.count(5), 128);
        for (int i = 0; i < 128; i++) {
            Due.is("entry(7, " + i + ", 3)", x.entry(7, i, 3), i + 1);
        }
        Due.is("entry(7, 127, 1)", x.entry(7, 127, 1), Due.RECEIVE);
        noEntry(x, 7, 128);
        x.cancel(0);
        for (int i = 0; i < 8; i++) {
            x.step(0);
            Due.is("entry(7, " + (126 - i) + ", 3)", x.entry(7, 126 - i, 3) == NONE ? 0 : 1, 1);
            noEntry(x, 7, 127 - i);
        }
    }

    private static void entryOfAnEmptyList() {
        Due.sentence(15, "NONE .. if there is none such: the LIST is empty, or empty again");
        ChoiceBench x = Scene.oneIn(Due.LOOK);
        noEntry(x, 2, 0);
        x.cancel(1);
        x.step(1);
        noEntry(x, 1, 0);
        Due.is("entry(0, 0, 0)", x.entry(0, 0, 0), 1);
        x.step(1);
        noEntry(x, 0, 0);
    }

    private static void entryOfNoPart() {
        Due.sentence(15, "NONE for others: no such part");
        ChoiceBench x = Scene.oneIn(Due.LOOK);
        for (int what : new int[] {-1, 5, 6, 256, MIN, MAX}) {
            Due.is("entry(1, 0, " + what + ")", x.entry(1, 0, what), NONE);
        }
    }

    private static void entryMovesUp() {
        Due.sentence(15, "The LIST is in the order of these: also when one has gone from its midst");
        ChoiceBench x = new ChoiceBench(4);
        for (int p = 0; p < 4; p++) {
            Due.single(x, p, Due.SEND, 3, 30 + p);
            x.step(p);
        }
        int[][] left = {{0, 2, 3}, {2, 3}, {2}};
        int[] goes = {1, 0, 3};
        for (int i = 0; i < goes.length; i++) {
            x.cancel(goes[i]);
            x.step(goes[i]);
            for (int j = 0; j < left[i].length; j++) {
                Due.is("entry(3, " + j + ", 0)", x.entry(3, j, 0), left[i][j]);
                Due.is("entry(3, " + j + ", 3)", x.entry(3, j, 3), left[i][j] + 1);
            }
            noEntry(x, 3, left[i].length);
        }
    }

    private static void entryOfEachPart() {
        Due.sentence(15, "what 0 its PROCESS, 1 kind, 2 value, 3 NUMBER, 4 VERSION: of the first and the last one");
        ChoiceBench x = new ChoiceBench(16);
        Due.single(x, 0, Due.SEND, 0, MIN);
        x.step(0);
        for (int i = 0; i < 6; i++) {
            x.spawn(15);
            x.offer(15);
            x.cancel(15);
            x.finish(15);
        }
        Due.single(x, 15, Due.RECEIVE, 7, MAX);
        x.step(15);
        int[] first = {0, 0, MIN, 1, 1};
        int[] last = {15, 1, MAX, 2, 7};
        for (int what = 0; what < 5; what++) {
            Due.is("entry(0, 0, " + what + ")", x.entry(0, 0, what), first[what]);
            Due.is("entry(7, 0, " + what + ")", x.entry(7, 0, what), last[what]);
        }
    }

    private static void pair() {
        Due.each(
                TellEdgesTest::pairBeforeTheFirst,
                TellEdgesTest::pairTooLow,
                TellEdgesTest::pairTooHigh,
                TellEdgesTest::pairOfNoPart,
                TellEdgesTest::pairOfOneThatSends,
                TellEdgesTest::pairOfOneThatReceives,
                TellEdgesTest::pairTellsItsStep,
                TellEdgesTest::pairStays);
    }

    private static void noPair(ChoiceBench x, int i) {
        for (int what = 0; what < 8; what++) {
            Due.is("pair(" + i + ", " + what + ")", x.pair(i, what), NONE);
        }
    }

    private static void hasPair(ChoiceBench x, int i, int[] due) {
        for (int what = 0; what < due.length; what++) {
            Due.is("pair(" + i + ", " + what + ")", x.pair(i, what), due[what]);
        }
    }

    private static void pairBeforeTheFirst() {
        Due.sentence(16, "NONE .. if it is not known: before SECOND went well");
        ChoiceBench x = Scene.oneIn(Due.SECOND);
        noPair(x, 0);
        x.step(1);
        Due.is("pair(0, 0)", x.pair(0, 0), 1);
    }

    private static void pairTooLow() {
        Due.sentence(16, "from 0 on .. NONE .. if it is not known: i is too low");
        ChoiceBench x = Scene.oneIn(Due.TELL);
        for (int i : new int[] {-1, -2, -200, MIN}) {
            noPair(x, i);
        }
    }

    /** 200 PAIRS need more than 512 calls: ForcedStateTest looks there. */
    private static void pairTooHigh() {
        Due.sentence(16, "NONE .. if it is not known: i is too high");
        ChoiceBench x = Scene.oneIn(Due.TELL);
        for (int i : new int[] {1, 2, 199, 200, 201, MAX}) {
            noPair(x, i);
        }
    }

    private static void pairOfNoPart() {
        Due.sentence(16, "NONE for others: no such part");
        ChoiceBench x = Scene.oneIn(Due.TELL);
        for (int what : new int[] {-1, 8, 9, 256, MIN, MAX}) {
            Due.is("pair(0, " + what + ")", x.pair(0, what), NONE);
        }
    }

    /** 2 is in VERSION 3, p in VERSION 1; p finds 2. */
    private static ChoiceBench metTwo(int p, int kind) {
        ChoiceBench x = new ChoiceBench(4);
        for (int i = 0; i < 2; i++) {
            x.spawn(2);
            x.offer(2);
            x.cancel(2);
            x.finish(2);
        }
        Due.single(x, 2, 1 - kind, 7, MIN);
        x.step(2);
        Due.single(x, p, kind, 7, MAX);
        Due.until(x, p, Due.TELL);
        return x;
    }

    private static void pairOfOneThatSends() {
        Due.sentence(16, "0 who claimed, 1 the other one, .. 3 what was sent, 4 who sent: who claimed sends");
        hasPair(metTwo(1, Due.SEND), 0, new int[] {1, 2, 7, MAX, 1, 1, 3, 5});
        hasPair(metTwo(3, Due.SEND), 0, new int[] {3, 2, 7, MAX, 3, 1, 3, 5});
    }

    private static void pairOfOneThatReceives() {
        Due.sentence(16, "0 who claimed, 1 the other one, .. 3 what was sent, 4 who sent: the other one sends");
        hasPair(metTwo(1, Due.RECEIVE), 0, new int[] {1, 2, 7, MIN, 2, 1, 3, 5});
        hasPair(metTwo(3, Due.RECEIVE), 0, new int[] {3, 2, 7, MIN, 2, 1, 3, 5});
    }

    private static void pairTellsItsStep() {
        Due.sentence(16, "7 how many STEPS there were, with this one");
        ChoiceBench x = Scene.oneIn(Due.SECOND);
        int before = x.count(4);
        x.step(1);
        Due.is("pair(0, 7)", x.pair(0, 7), before + 1);
        Due.is("count(4)", x.count(4), before + 1);
        Due.until(x, 1, Due.DONE);
        Due.is("pair(0, 7) later", x.pair(0, 7), before + 1);
    }

    private static void pairStays() {
        Due.sentence(16, "Of the i-th PAIR: in the order in which they came, for ever");
        ChoiceBench x = Scene.oneIn(Due.DONE);
        Due.until(x, 0, Due.DONE);
        for (int p = 0; p < 2; p++) {
            x.finish(p);
            x.quit(p);
        }
        Due.single(x, 2, Due.SEND, 5, 52);
        x.step(2);
        Due.single(x, 3, Due.RECEIVE, 5, 53);
        Due.until(x, 3, Due.TELL);
        hasPair(x, 0, new int[] {1, 0, 0, 70, 0, 1, 1});
        hasPair(x, 1, new int[] {3, 2, 5, 52, 2, 1, 1});
        noPair(x, 2);
    }

    private static void doubles() {
        Due.each(
                TellEdgesTest::doublesOfNone,
                TellEdgesTest::doublesInSeveralVersions,
                TellEdgesTest::doublesOutInAnotherVersion);
    }

    private static void doublesOfNone() {
        Due.sentence(17, "How many OFFERS .. are in more than one PAIR: none without PAIRS, nor in one PAIR");
        Due.is("doubles(), new", new ChoiceBench(2).doubles(), 0);
        for (int phase : new int[] {Due.TELL, Due.OWN, Due.WITHDRAW, Due.DONE}) {
            Due.is("doubles() in PHASE " + phase, Scene.oneIn(phase).doubles(), 0);
        }
    }

    private static void doublesInSeveralVersions() {
        Due.sentence(17, "(a PROCESS in a VERSION): in one PAIR in each VERSION");
        ChoiceBench x = new ChoiceBench(2);
        for (int i = 1; i <= 5; i++) {
            Due.single(x, 0, Due.SEND, 0, i);
            x.step(0);
            Due.single(x, 1, Due.RECEIVE, 0, 0);
            Due.until(x, 1, Due.DONE);
            Due.until(x, 0, Due.DONE);
            x.finish(0);
            x.finish(1);
            Due.is("count(2)", x.count(2), i);
            Due.is("doubles()", x.doubles(), 0);
        }
    }

    private static void doublesOutInAnotherVersion() {
        Due.sentence(17, "or in one and OUT: OUT in another VERSION");
        ChoiceBench x = Scene.oneIn(Due.DONE);
        x.finish(1);
        x.offer(1);
        x.cancel(1);
        Due.is("word(1, 0)", x.word(1, 0), Due.OUT);
        Due.is("doubles()", x.doubles(), 0);
        x.finish(1);
        Due.single(x, 1, Due.SEND, 1, 0);
        x.step(1);
        Due.single(x, 2, Due.RECEIVE, 1, 0);
        Due.until(x, 2, Due.DONE);
        Due.is("count(2)", x.count(2), 2);
        Due.is("doubles()", x.doubles(), 0);
    }

    private static void unmet() {
        Due.each(
                TellEdgesTest::unmetOfNone,
                TellEdgesTest::unmetNotAsleep,
                TellEdgesTest::unmetNotWaiting,
                TellEdgesTest::unmetWithoutMatch);
    }

    private static void unmetOfNone() {
        Due.sentence(18, "How many couples of PROCESSES: none without OFFERS, nor of one that sleeps alone");
        Due.is("unmet(), new", new ChoiceBench(16).unmet(), 0);
        ChoiceBench x = new ChoiceBench(2);
        x.spawn(0);
        x.guard(0, Due.SEND, 0, 1, true);
        x.guard(0, Due.RECEIVE, 0, 1, true);
        x.offer(0);
        Due.until(x, 0, Due.ASLEEP);
        Due.is("unmet(), its own two", x.unmet(), 0);
    }

    private static void unmetNotAsleep() {
        Due.sentence(18, "are both ASLEEP: one of them is not");
        int[][] others = {{0, Due.SEND, 0}, {2, Due.RECEIVE, 1}};
        for (int[] other : others) {
            ChoiceBench x = Scene.oneIn(Due.ASLEEP);
            Due.single(x, other[0], other[1], other[2], 0);
            for (int i = 0; i < 4; i++) {
                Due.is("unmet() in PHASE " + x.phase(other[0]), x.unmet(), 0);
                x.step(other[0]);
            }
        }
    }

    private static void unmetNotWaiting() {
        Due.sentence(18, "with WORDS that are WAITING: one of them is TAKEN, and has not seen it yet");
        int[][] others = {{0, Due.SEND, 0}, {3, Due.RECEIVE, 1}};
        for (int[] other : others) {
            ChoiceBench x = Scene.oneHeldIn(Due.ASLEEP);
            Scene.twoTakesOne(x);
            Due.single(x, other[0], other[1], other[2], 0);
            Due.until(x, other[0], Due.ASLEEP);
            Due.phase("TAKEN", x, 1, Due.ASLEEP);
            Due.is("word(" + other[0] + ", 0)", x.word(other[0], 0), Due.WAITING);
            Due.is("unmet()", x.unmet(), 0);
        }
    }

    private static void unmetWithoutMatch() {
        Due.sentence(18, "and have GUARDS that MATCH: not of one kind, on two CHANNELS, or not ON");
        int[][] others = {{Due.SEND, 1, 1}, {Due.RECEIVE, 2, 1}, {Due.RECEIVE, 1, 0}, {Due.SEND, 0, 0}};
        for (int[] other : others) {
            ChoiceBench x = Scene.oneIn(Due.ASLEEP);
            x.spawn(2);
            x.guard(2, other[0], other[1], 0, other[2] == 1);
            x.offer(2);
            Due.until(x, 2, Due.ASLEEP);
            Due.is("unmet()", x.unmet(), 0);
        }
    }

    private static void held() {
        Due.each(
                TellEdgesTest::heldOfNone,
                TellEdgesTest::heldInEachPhaseThatMay);
    }

    private static void heldOfNone() {
        Due.sentence(19, "How many WORDS are CLAIMED: none is");
        Due.is("held(), new", new ChoiceBench(16).held(), 0);
        for (int phase : new int[] {Due.PUBLISH, Due.CLAIM, Due.ASLEEP, Due.WITHDRAW, Due.DONE}) {
            Due.is("held() in PHASE " + phase, Scene.oneIn(phase).held(), 0);
        }
    }

    private static void heldInEachPhaseThatMay() {
        Due.sentence(19, "by a PROCESS that is not in SECOND, BACK, TELL or OWN");
        for (int phase : new int[] {Due.SECOND, Due.BACK, Due.TELL, Due.OWN}) {
            ChoiceBench x = Scene.oneIn(phase);
            Due.yes("CLAIMED by 1", x.word(0, 2) == 1 || x.word(1, 2) == 1);
            Due.is("held() in PHASE " + phase, x.held(), 0);
        }
        ChoiceBench y = Scene.oneIn(Due.SECOND);
        y.cancel(1);
        Due.is("held() in SECOND, taken back", y.held(), 0);
    }

    private static void count() {
        Due.each(
                TellEdgesTest::countOfNoPart,
                TellEdgesTest::countOfProcesses,
                TellEdgesTest::countOfThoseNotGone,
                TellEdgesTest::countOfPairs,
                TellEdgesTest::countOfClock,
                TellEdgesTest::countOfSteps,
                TellEdgesTest::countOfEntries,
                TellEdgesTest::countOfPublished,
                TellEdgesTest::countOfTried);
    }

    private static void countOfNoPart() {
        Due.sentence(20, "NONE for others");
        ChoiceBench x = Scene.oneIn(Due.DONE);
        for (int what : new int[] {-1, 9, 10, 256, MIN, MAX}) {
            Due.is("count(" + what + ")", x.count(what), NONE);
        }
    }

    private static void countOfProcesses() {
        Due.sentence(20, "What 0: PROCESSES: GONE ones too");
        ChoiceBench x = new ChoiceBench(7);
        Due.is("count(0)", x.count(0), 7);
        x.spawn(3);
        Due.is("count(0)", x.count(0), 7);
    }

    private static void countOfThoseNotGone() {
        Due.sentence(20, "1: how many are not GONE: IDLE, OFFERING, DONE; none; all");
        ChoiceBench x = new ChoiceBench(3);
        Due.is("count(1)", x.count(1), 0);
        for (int p = 0; p < 3; p++) {
            x.spawn(p);
            Due.is("count(1)", x.count(1), p + 1);
        }
        x.offer(0);
        Due.is("count(1), one OFFERING", x.count(1), 3);
        x.cancel(0);
        Due.is("count(1), one DONE", x.count(1), 3);
        x.finish(0);
        for (int p = 0; p < 3; p++) {
            x.quit(p);
            Due.is("count(1)", x.count(1), 2 - p);
        }
    }

    private static void countOfPairs() {
        Due.sentence(20, "2: PAIRS that came: in SECOND, before anybody is told");
        ChoiceBench x = Scene.oneIn(Due.SECOND);
        Due.is("count(2)", x.count(2), 0);
        x.step(1);
        Due.is("count(2)", x.count(2), 1);
        Due.until(x, 1, Due.DONE);
        Due.is("count(2)", x.count(2), 1);
    }

    private static void countOfClock() {
        Due.sentence(20, "3: the CLOCK: ticks alone");
        ChoiceBench x = Scene.oneIn(Due.DONE);
        Due.is("count(3)", x.count(3), 0);
        x.tick();
        Due.is("count(3)", x.count(3), 1);
    }

    private static void countOfSteps() {
        Due.sentence(20, "4: STEPS: of those that are OFFERING, by step() and run(), in each PHASE");
        ChoiceBench x = Scene.oneIn(Due.IDLE);
        x.step(0);
        x.step(1);
        x.step(9);
        Due.is("count(4), GONE, IDLE, no PROCESS", x.count(4), 0);
        x.offer(1);
        for (int i = 1; i <= 10; i++) {
            x.step(1);
            Due.is("count(4)", x.count(4), i);
        }
        x.cancel(1);
        Due.is("count(4), taken back", x.count(4), 10);
        Due.steps(x, 1, 2);
        Due.is("count(4), DONE", x.count(4), 12);
        Due.steps(x, 1, 3);
        x.run(100, 1);
        Due.is("count(4), DONE already", x.count(4), 12);
    }

    private static void countOfEntries() {
        Due.sentence(20, "5: ENTRIES in all LISTS: the first and the last one too");
        ChoiceBench x = new ChoiceBench(2);
        x.spawn(0);
        for (int channel = 0; channel < 8; channel++) {
            x.guard(0, Due.SEND, channel, 0, true);
        }
        x.offer(0);
        for (int i = 1; i <= 8; i++) {
            x.step(0);
            Due.is("count(5)", x.count(5), i);
        }
        x.cancel(0);
        for (int i = 1; i <= 8; i++) {
            x.step(0);
            Due.is("count(5)", x.count(5), 8 - i);
        }
    }

    private static void countOfPublished() {
        Due.sentence(20, "6: ENTRIES that were published: those that went too");
        ChoiceBench x = Scene.oneIn(Due.DONE);
        Due.is("count(6)", x.count(6), 3);
        Due.until(x, 0, Due.DONE);
        Due.is("count(5)", x.count(5), 0);
        Due.is("count(6)", x.count(6), 3);
    }

    private static void countOfTried() {
        Due.sentence(20, "7: WORDS that were TRIED, 8: of these not well");
        ChoiceBench x = Scene.oneIn(Due.CLAIM);
        Due.is("count(7)", x.count(7), 0);
        x.step(1);
        Due.is("count(7), CLAIM", x.count(7), 1);
        Due.is("count(8), well", x.count(8), 0);
        x.step(1);
        Due.is("count(7), SECOND", x.count(7), 2);
        Due.is("count(8), well", x.count(8), 0);
        Due.until(x, 1, Due.DONE);
        Due.is("count(7), TELL, OWN, WITHDRAW", x.count(7), 2);
        ChoiceBench y = Scene.oneIn(Due.BACK);
        Due.is("count(7), CLAIM of 1 and 2, SECOND", y.count(7), 3);
        Due.is("count(8), SECOND of 1", y.count(8), 1);
        y.step(1);
        Due.is("count(7), BACK", y.count(7), 3);
    }

    private static void tellingChangesNothing() {
        Due.sentence(20, "What is refused changes nothing: nor does what only tells");
        for (int phase : Scene.OFFERING) {
            ChoiceBench x = Scene.oneIn(phase);
            for (int i = -1; i <= 4; i++) {
                x.phase(i);
                x.word(i, i);
                x.outcome(i, i);
                x.entry(i, i, i);
                x.pair(i, i);
                x.count(i);
            }
            x.doubles();
            x.unmet();
            x.held();
            Scene.goesOnAs("telling", x, Scene.oneIn(phase));
        }
    }
}
