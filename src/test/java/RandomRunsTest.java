import java.util.Random;
import java.util.Set;
import java.util.TreeSet;

/**
 * All promises: random calls on fresh objects, at most 512 on each, every answer against Model. The
 * source of the calls is seeded, so each run of this test makes the same ones. At its end it tells
 * whether every branch of the document that can be reached was taken.
 */
public final class RandomRunsTest {
    private static final int RUNS = 40000;
    private static final int CALLS = 512;

    private static final String[] BRANCHES = {
        "asleep and CLAIMED", "asleep and TAKEN", "asleep and WAITING",
        "back: own CLAIMED, look", "back: own OUT, look", "back: own OUT, withdraw",
        "back: own TAKEN, look", "back: own TAKEN, withdraw", "back: own WAITING, look",
        "cancel in ASLEEP", "cancel in BACK", "cancel in CLAIM", "cancel in END", "cancel in LOOK",
        "cancel in PUBLISH", "cancel in SECOND",
        "claim: other CLAIMED", "claim: other CLAIMED anew", "claim: other FREE",
        "claim: other FREE anew", "claim: other OUT",
        "claim: other OUT anew", "claim: other TAKEN", "claim: other TAKEN anew",
        "claim: other WAITING anew", "claim: other well",
        "claim: own CLAIMED", "claim: own OUT", "claim: own TAKEN", "claim: own well",
        "due and CLAIMED", "due and OUT", "due and TAKEN", "due and WAITING",
        "due in ASLEEP", "due in BACK", "due in CLAIM", "due in END", "due in LOOK", "due in OWN",
        "due in PUBLISH", "due in SECOND", "due in TELL", "due in WITHDRAW",
        "end and CLAIMED", "end and CLAIMED, busy", "end and OUT, busy",
        "end and TAKEN", "end and TAKEN, busy", "end and WAITING", "end and WAITING, busy",
        "look: its own", "look: the same kind",
        "publish while CLAIMED", "publish while TAKEN", "publish while WAITING",
        "second: other CLAIMED", "second: other CLAIMED anew", "second: other FREE",
        "second: other FREE anew",
        "second: other OUT", "second: other OUT anew", "second: other TAKEN",
        "second: other TAKEN anew", "second: other WAITING anew", "second: other well",
        "second: own CLAIMED", "second: own OUT", "second: own TAKEN", "second: own well",
        "tell one in ASLEEP", "tell one in BACK", "tell one in CLAIM", "tell one in END",
        "tell one in LOOK", "tell one in PUBLISH", "tell one in SECOND"
    };

    private final Random random;
    private final String name;
    private final int processes;
    private final int channels;
    private final ChoiceBench x;
    private final Model m;
    private int lively;

    private RandomRunsTest(int run, Set<String> branches) {
        random = new Random(run);
        name = "run " + run + ": ";
        int asked = run % 50 == 0 ? random.nextInt(40) - 10 : 2 + random.nextInt(run % 7 == 0 ? 15 : 4);
        channels = 1 + random.nextInt(run % 3 == 0 ? 8 : 2);
        x = new ChoiceBench(asked);
        m = new Model(asked, branches);
        processes = m.all.size();
    }

    public static void main(String[] args) {
        Set<String> branches = new TreeSet<>();
        for (int run = 0; run < RUNS && Due.wrongs() == 0; run++) {
            RandomRunsTest test = new RandomRunsTest(run, branches);
            test.lively = 50 + 10 * (run % 5);
            for (int i = 1; i <= CALLS && Due.wrongs() == 0; i++) {
                test.call(i);
            }
        }
        for (String branch : BRANCHES) {
            Due.yes("taken '" + branch + "'", branches.contains(branch));
            branches.remove(branch);
        }
        Due.is("branches that nobody thought of " + branches, branches.size(), 0);
        Due.end();
    }

    private void due(int i, String call, int got, int want) {
        Due.is(name + "call " + i + ", " + call, got, want);
    }

    private void due(int i, String call, boolean got, boolean want) {
        due(i, call, got ? 1 : 0, want ? 1 : 0);
    }

    private int anyProcess() {
        return random.nextInt(40) == 0 ? random.nextInt(60) - 20 : random.nextInt(processes);
    }

    /** One is often left in the midst of a claim, so that the others go on around it. */
    private int anyProcessButTheSlow() {
        int p = anyProcess();
        int phase = m.phase(p);
        boolean slow = p == 0 || p == processes - 2;
        return slow && phase >= Due.CLAIM && phase <= Due.BACK && random.nextInt(8) != 0 ? processes - 1 : p;
    }

    private int what(int above) {
        return random.nextInt(20) == 0 ? random.nextInt(40) - 20 : random.nextInt(above);
    }

    /** To be taken back in BACK is rare: its own WORD must have been CLAIMED and given back. */
    private int someoneInBack() {
        for (int p = 0; p < processes; p++) {
            if (m.phase(p) == Due.BACK) {
                return p;
            }
        }
        return -1;
    }

    private void call(int i) {
        int p = anyProcessButTheSlow();
        int dice = random.nextInt(100);
        int inBack = random.nextInt(4) == 0 ? someoneInBack() : -1;
        if (inBack >= 0) {
            int r = m.word(inBack, 2) < 0 ? inBack : m.word(inBack, 2);
            due(i, "cancel(" + r + ")", x.cancel(r), m.cancel(r));
        } else if (dice < lively) {
            due(i, "step(" + p + ")", x.step(p), m.step(p));
        } else if (dice < 95) {
            if (random.nextInt(3) == 0) {
                tell(i, p);
            } else {
                live(i, p);
            }
        } else {
            rare(i, anyProcess());
        }
    }

    /** Mostly what the PROCESS can do now, so that a run does not stand still. */
    private void live(int i, int p) {
        int phase = m.phase(p);
        if (phase == 0) {
            due(i, "spawn(" + p + ")", x.spawn(p), m.spawn(p));
        } else if (phase == 12) {
            due(i, "finish(" + p + ")", x.finish(p), m.finish(p));
        } else if (phase == 1) {
            prepare(i, p);
        } else if (random.nextInt(6) == 0) {
            due(i, "cancel(" + p + ")", x.cancel(p), m.cancel(p));
        } else {
            due(i, "step(" + p + ")", x.step(p), m.step(p));
        }
    }

    private void prepare(int i, int p) {
        int dice = random.nextInt(10);
        if (dice < 6) {
            guard(i, p);
        } else if (dice < 7) {
            int n = random.nextInt(4);
            due(i, "timeout(" + p + ", " + n + ")", x.timeout(p, n), m.timeout(p, n));
        } else {
            due(i, "offer(" + p + ")", x.offer(p), m.offer(p));
        }
    }

    private void guard(int i, int p) {
        int kind = random.nextInt(30) == 0 ? random.nextInt(6) - 2 : random.nextInt(2);
        int channel = random.nextInt(30) == 0 ? random.nextInt(20) - 6 : random.nextInt(channels);
        int value = random.nextInt(5) == 0 ? random.nextInt() : random.nextInt(100);
        boolean on = random.nextInt(6) != 0;
        due(i, "guard(" + p + ", " + kind + ", " + channel + ", " + value + ", " + on + ")",
                x.guard(p, kind, channel, value, on), m.guard(p, kind, channel, value, on));
    }

    private void rare(int i, int p) {
        switch (random.nextInt(9)) {
            case 0 -> due(i, "spawn(" + p + ")", x.spawn(p), m.spawn(p));
            case 1 -> due(i, "quit(" + p + ")", x.quit(p), m.quit(p));
            case 2 -> due(i, "finish(" + p + ")", x.finish(p), m.finish(p));
            case 3 -> due(i, "offer(" + p + ")", x.offer(p), m.offer(p));
            case 4 -> {
                int n = random.nextInt(2400) - 700;
                due(i, "timeout(" + p + ", " + n + ")", x.timeout(p, n), m.timeout(p, n));
            }
            case 5 -> guard(i, p);
            case 6 -> {
                int n = random.nextInt(200) == 0 ? 4990 + random.nextInt(20) : random.nextInt(30) - 2;
                int seed = random.nextInt();
                due(i, "run(" + n + ", " + seed + ")", x.run(n, seed), m.run(n, seed));
            }
            case 7 -> due(i, "tick()", x.tick(), m.tick());
            default -> due(i, "cancel(" + p + ")", x.cancel(p), m.cancel(p));
        }
    }

    private void tell(int i, int p) {
        int what = what(9);
        switch (random.nextInt(9)) {
            case 0 -> due(i, "phase(" + p + ")", x.phase(p), m.phase(p));
            case 1 -> due(i, "word(" + p + ", " + what % 4 + ")", x.word(p, what % 4), m.word(p, what % 4));
            case 2 -> due(i, "outcome(" + p + ", " + what % 5 + ")",
                    x.outcome(p, what % 5), m.outcome(p, what % 5));
            case 3 -> {
                int channel = random.nextInt(30) == 0 ? random.nextInt(20) - 6 : random.nextInt(channels);
                int at = random.nextInt(8) - 1;
                due(i, "entry(" + channel + ", " + at + ", " + what % 6 + ")",
                        x.entry(channel, at, what % 6), m.entry(channel, at, what % 6));
            }
            case 4 -> {
                int at = random.nextInt(Math.max(1, m.pairs.size()) + 2) - 1;
                due(i, "pair(" + at + ", " + what + ")", x.pair(at, what), m.pair(at, what));
            }
            case 5 -> due(i, "doubles()", x.doubles(), m.doubles());
            case 6 -> due(i, "unmet()", x.unmet(), m.unmet());
            case 7 -> due(i, "held()", x.held(), m.held());
            default -> due(i, "count(" + what + ")", x.count(what), m.count(what));
        }
    }
}
