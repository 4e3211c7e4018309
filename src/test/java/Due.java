/** What the tests share: it compares answers, prints those that are not due, and sets up PROCESSES. */
final class Due {
    static final int SEND = 0;
    static final int RECEIVE = 1;

    static final int GONE = 0;
    static final int IDLE = 1;
    static final int PUBLISH = 2;
    static final int LOOK = 3;
    static final int CLAIM = 4;
    static final int SECOND = 5;
    static final int BACK = 6;
    static final int TELL = 7;
    static final int OWN = 8;
    static final int END = 9;
    static final int ASLEEP = 10;
    static final int WITHDRAW = 11;
    static final int DONE = 12;

    static final int FREE = 0;
    static final int WAITING = 1;
    static final int CLAIMED = 2;
    static final int TAKEN = 3;
    static final int OUT = 4;

    private static int compared = 0;
    private static int wrong = 0;
    private static int sentences = 0;
    private static String about = "";

    private Due() {
    }

    /** What is compared from here on belongs to these words of the document, up to the next ones. */
    static void sentence(int promise, String words) {
        sentences++;
        about = "promise " + promise + ", \"" + words + "\": ";
    }

    /** Runs tests that each have their own sentence; one that breaks off does not keep the others back. */
    static void each(Runnable... tests) {
        for (Runnable test : tests) {
            try {
                test.run();
            } catch (RuntimeException thrown) {
                wrong++;
                System.out.println(about + "threw " + thrown);
            }
        }
    }

    static void is(String call, long got, long want) {
        compared++;
        if (got != want) {
            wrong++;
            if (wrong <= 40) {
                System.out.println(about + call + " answered " + got + ", due is " + want);
            }
        }
    }

    static void yes(String call, boolean got) {
        is(call, got ? 1 : 0, 1);
    }

    static void no(String call, boolean got) {
        is(call, got ? 1 : 0, 0);
    }

    static int wrongs() {
        return wrong;
    }

    /** Ends the test: exit code 1 if an answer was not due. */
    static void end() {
        String of = sentences == 0 ? "" : " of " + sentences + " sentences";
        System.out.println(compared + " answers" + of + ", " + wrong + " not as due");
        if (wrong != 0 || compared == 0) {
            System.exit(1);
        }
    }

    static void phase(String when, ChoiceBench x, int p, int want) {
        is(when + ": phase(" + p + ")", x.phase(p), want);
    }

    /** A PROCESS with one GUARD that is ON, behind offer(). */
    static void single(ChoiceBench x, int p, int kind, int channel, int value) {
        x.spawn(p);
        yes("guard(" + p + ", ..)", x.guard(p, kind, channel, value, true));
        yes("offer(" + p + ")", x.offer(p));
    }

    static void steps(ChoiceBench x, int p, int n) {
        for (int i = 0; i < n; i++) {
            x.step(p);
        }
    }

    /** Steps p until it is in a PHASE; it has at most 60 steps for it. */
    static void until(ChoiceBench x, int p, int phase) {
        for (int i = 0; i < 60 && x.phase(p) != phase; i++) {
            x.step(p);
        }
        is("until: phase(" + p + ")", x.phase(p), phase);
    }
}
