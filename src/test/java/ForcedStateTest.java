import java.lang.reflect.Array;
import java.lang.reflect.Field;

/**
 * Promises 6 and 16 to 19 where calls alone can't reach: the steps never let doubles(), unmet() and
 * held() be above 0, and 512 calls are too few for VERSION 1000 or 200 PAIRS. So this test writes into
 * the private state, and is the only one that knows how it is held.
 */
public final class ForcedStateTest {
    private static final int NONE = ChoiceBench.NONE;

    public static void main(String[] args) throws ReflectiveOperationException {
        lastVersion();
        knownPairs();
        inTwoPairs();
        inOnePairAndOut();
        outAndInOnePair();
        unmet();
        unmetIsOfCouples();
        unmetForgetsOldGuards();
        held();
        Due.end();
    }

    private static Object get(Object of, String name) throws ReflectiveOperationException {
        Field f = of.getClass().getDeclaredField(name);
        f.setAccessible(true);
        return f.get(of);
    }

    private static void set(Object of, String name, int value) throws ReflectiveOperationException {
        Field f = of.getClass().getDeclaredField(name);
        f.setAccessible(true);
        f.setInt(of, value);
    }

    private static Object process(ChoiceBench x, int p) throws ReflectiveOperationException {
        return Array.get(get(x, "procs"), p);
    }

    private static void setWord(ChoiceBench x, int p, String part, int value)
            throws ReflectiveOperationException {
        set(get(process(x, p), "word"), part, value);
    }

    private static void setPhase(ChoiceBench x, int p, int phase) throws ReflectiveOperationException {
        set(process(x, p), "phase", phase);
    }

    private static void lastVersion() throws ReflectiveOperationException {
        ChoiceBench x = new ChoiceBench(2);
        x.spawn(0);
        setWord(x, 0, "version", 999);
        Due.yes("VERSION 999", x.offer(0));
        Due.is("VERSION", x.word(0, 1), 1000);
        x.cancel(0);
        x.finish(0);
        Due.no("VERSION 1000", x.offer(0));
        Due.is("VERSION", x.word(0, 1), 1000);
        Due.phase("refused", x, 0, Due.IDLE);
        Due.is("refused", x.word(0, 0), Due.FREE);
    }

    private static void knownPairs() throws ReflectiveOperationException {
        ChoiceBench x = new ChoiceBench(2);
        set(get(x, "pairs"), "size", 199);
        for (int round = 1; round <= 3; round++) {
            Due.single(x, 0, Due.SEND, 0, round);
            Due.until(x, 0, Due.ASLEEP);
            Due.single(x, 1, Due.RECEIVE, 0, 0);
            Due.until(x, 1, Due.DONE);
            Due.until(x, 0, Due.DONE);
            x.finish(0);
            x.finish(1);
        }
        Due.is("PAIRS", x.count(2), 202);
        Due.is("the 200th", x.pair(199, 3), 1);
        Due.is("the 200th", x.pair(199, 7), 8);
        Due.is("the 201st", x.pair(200, 0), NONE);
        Due.is("the 202nd", x.pair(201, 0), NONE);
        Due.is("none", x.pair(202, 0), NONE);
    }

    /** 1 and 0 are a PAIR, 1 is behind TELL and OWN; 0, ASLEEP, has not seen it. */
    private static ChoiceBench oneMet() {
        ChoiceBench x = new ChoiceBench(4);
        Due.single(x, 0, Due.SEND, 0, 5);
        Due.until(x, 0, Due.ASLEEP);
        Due.single(x, 1, Due.RECEIVE, 0, 0);
        Due.until(x, 1, Due.WITHDRAW);
        Due.is("no doubles", x.doubles(), 0);
        return x;
    }

    private static void inTwoPairs() throws ReflectiveOperationException {
        ChoiceBench x = oneMet();
        setWord(x, 0, "kind", Due.WAITING);
        Due.single(x, 2, Due.RECEIVE, 0, 0);
        Due.until(x, 2, Due.TELL);
        Due.is("0 is in two PAIRS", x.doubles(), 1);
        setWord(x, 0, "kind", Due.WAITING);
        Due.single(x, 3, Due.RECEIVE, 0, 0);
        Due.until(x, 3, Due.TELL);
        Due.is("0 is in three, and counts once", x.doubles(), 1);
        setWord(x, 0, "kind", Due.WAITING);
        x.cancel(0);
        Due.is("and OUT, and counts once", x.doubles(), 1);
        Due.is("WITHDRAW", x.step(0), 5);
        x.finish(0);
        setWord(x, 3, "kind", Due.WAITING);
        setPhase(x, 3, Due.ASLEEP);
        Due.single(x, 0, Due.SEND, 0, 5);
        // It finds the ENTRY of 1 first, which is TAKEN, then that of 2, CLAIMED, then that of 3.
        Due.until(x, 0, Due.TELL);
        Due.is("0 met 3", x.pair(3, 1), 3);
        Due.is("3 is in two PAIRS, 0 is not in its new VERSION", x.doubles(), 2);
    }

    private static void inOnePairAndOut() throws ReflectiveOperationException {
        ChoiceBench x = oneMet();
        setWord(x, 0, "kind", Due.WAITING);
        Due.yes("cancel", x.cancel(0));
        Due.is("in one PAIR and OUT", x.doubles(), 1);
        Due.is("WITHDRAW", x.step(0), 5);
        x.finish(0);
        Due.is("it stays so", x.doubles(), 1);
        Due.single(x, 0, Due.SEND, 0, 5);
        Due.until(x, 0, Due.ASLEEP);
        Due.single(x, 2, Due.RECEIVE, 0, 0);
        Due.until(x, 2, Due.TELL);
        Due.is("in one PAIR in its next VERSION", x.doubles(), 1);
        setWord(x, 0, "kind", Due.WAITING);
        x.cancel(0);
        Due.is("and OUT there too", x.doubles(), 2);
    }

    private static void outAndInOnePair() throws ReflectiveOperationException {
        ChoiceBench x = new ChoiceBench(2);
        Due.single(x, 0, Due.SEND, 0, 5);
        Due.until(x, 0, Due.ASLEEP);
        Due.single(x, 1, Due.RECEIVE, 0, 0);
        Due.until(x, 1, Due.SECOND);
        Due.yes("cancel in SECOND", x.cancel(1));
        setWord(x, 1, "kind", Due.WAITING);
        x.step(1);
        Due.is("a PAIR", x.count(2), 1);
        Due.is("1 was OUT, 0 was not", x.doubles(), 1);
    }

    private static void sleep(ChoiceBench x, int p, int[][] guards) throws ReflectiveOperationException {
        x.spawn(p);
        for (int[] g : guards) {
            x.guard(p, g[0], g[1], 0, g[2] == 1);
        }
        x.offer(p);
        setPhase(x, p, Due.ASLEEP);
    }

    private static void unmet() throws ReflectiveOperationException {
        ChoiceBench x = new ChoiceBench(2);
        sleep(x, 0, new int[][] {{Due.SEND, 0, 1}});
        sleep(x, 1, new int[][] {{Due.RECEIVE, 0, 1}});
        Due.is("they match", x.unmet(), 1);
        for (int p = 0; p < 2; p++) {
            for (int kind = Due.FREE; kind <= Due.OUT; kind++) {
                setWord(x, p, "kind", kind);
                Due.is("the WORD of " + p + " is " + kind, x.unmet(), kind == Due.WAITING ? 1 : 0);
            }
            setWord(x, p, "kind", Due.WAITING);
            for (int phase = Due.GONE; phase <= Due.DONE; phase++) {
                setPhase(x, p, phase);
                Due.is("the PHASE of " + p + " is " + phase, x.unmet(), phase == Due.ASLEEP ? 1 : 0);
            }
            setPhase(x, p, Due.ASLEEP);
        }
        int[][] others = {{Due.SEND, 0, 1}, {Due.RECEIVE, 1, 1}, {Due.RECEIVE, 0, 0}};
        for (int[] other : others) {
            ChoiceBench y = new ChoiceBench(2);
            sleep(y, 0, new int[][] {{Due.SEND, 0, 1}});
            sleep(y, 1, new int[][] {other});
            Due.is("they don't match", y.unmet(), 0);
            ChoiceBench z = new ChoiceBench(2);
            sleep(z, 0, new int[][] {other});
            sleep(z, 1, new int[][] {{Due.SEND, 0, 1}});
            Due.is("they don't match", z.unmet(), 0);
        }
    }

    private static void unmetIsOfCouples() throws ReflectiveOperationException {
        ChoiceBench x = new ChoiceBench(16);
        for (int p = 0; p < 16; p++) {
            sleep(x, p, new int[][] {{Due.SEND, 3, 1}, {Due.RECEIVE, 3, 1}, {Due.RECEIVE, 3, 1}});
        }
        Due.is("each couple once", x.unmet(), 120);
        ChoiceBench y = new ChoiceBench(3);
        int[][] eight = new int[8][];
        for (int i = 0; i < 8; i++) {
            eight[i] = new int[] {Due.SEND, i, 1};
        }
        sleep(y, 1, eight);
        sleep(y, 2, new int[][] {{Due.SEND, 0, 1}, {Due.RECEIVE, 7, 1}});
        Due.is("the last GUARDS of both", y.unmet(), 1);
    }

    private static void unmetForgetsOldGuards() throws ReflectiveOperationException {
        ChoiceBench x = new ChoiceBench(2);
        for (int p = 0; p < 2; p++) {
            sleep(x, p, new int[][] {{p, 0, 1}, {p, 0, 1}, {p, 0, 1}});
        }
        Due.is("they match", x.unmet(), 1);
        for (int p = 0; p < 2; p++) {
            x.cancel(p);
            x.finish(p);
            sleep(x, p, new int[][] {{Due.SEND, 0, 1}});
            Due.is("the GUARDS of an earlier OFFER don't count", x.unmet(), p == 0 ? 1 : 0);
        }
        x.cancel(0);
        x.finish(0);
        sleep(x, 0, new int[][] {{Due.SEND, 0, 1}, {Due.RECEIVE, 1, 1}});
        Due.is("on either side", x.unmet(), 0);
    }

    private static void held() throws ReflectiveOperationException {
        ChoiceBench x = new ChoiceBench(3);
        int[] phases = {Due.SECOND, Due.BACK, Due.TELL, Due.OWN};
        for (int claimer = 0; claimer < 3; claimer++) {
            for (int p = 0; p < 3; p++) {
                setWord(x, p, "kind", Due.CLAIMED);
                setWord(x, p, "claimer", claimer);
            }
            for (int phase = Due.GONE; phase <= Due.DONE; phase++) {
                setPhase(x, claimer, phase);
                boolean may = false;
                for (int one : phases) {
                    may |= one == phase;
                }
                Due.is("held in " + phase, x.held(), may ? 0 : 3);
            }
        }
        setWord(x, 1, "kind", Due.TAKEN);
        Due.is("only what is CLAIMED", x.held(), 2);
    }
}
