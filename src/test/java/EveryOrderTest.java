import java.util.ArrayDeque;
import java.util.ArrayList;
import java.util.HashSet;
import java.util.List;
import java.util.Set;

/**
 * What the document begins with, and promises 7, 8, 10 and 17 to 19: two or three PROCESSES OFFER, and
 * then step in every order there is; in some worlds they are also taken back, or the CLOCK goes on, at
 * every moment. In each state that comes the answers are those of Model, no WORD is held, no OFFER has
 * met twice, and no two that match sleep. Where no step changes anything more, all that must meet have.
 */
public final class EveryOrderTest {
    private static final int STEP = 0;
    private static final int CANCEL = 1;
    private static final int TICK = 2;
    private static final String[] CALLS = {" step ", " cancel ", " tick "};

    private record Guard(int p, int kind, int channel) { }

    /** A call behind those that led to an earlier state; without one before it: the OFFERS were made. */
    private record Path(Path before, int call, int p) { }

    private record State(ChoiceBench x, Model m) { }

    private final String name;
    private final int processes;
    private final int[] timeouts;
    private final List<Guard> guards = new ArrayList<>();
    private final List<Integer> takenBack = new ArrayList<>();
    private int lastTick = 0;
    private boolean allMeet = false;

    private EveryOrderTest(String name, int processes) {
        this.name = name;
        this.processes = processes;
        timeouts = new int[processes];
    }

    public static void main(String[] args) {
        new EveryOrderTest("two that match", 2)
                .send(0, 0).receive(1, 0).meet().explore();
        new EveryOrderTest("two that match twice", 2)
                .send(0, 0).receive(0, 1).send(1, 1).receive(1, 0).meet().explore();
        new EveryOrderTest("two, taken back, with time-outs", 2)
                .send(0, 0).receive(1, 0).back(0).back(1).time(0, 1).time(1, 2).explore();
        new EveryOrderTest("two that send, one that receives", 3)
                .send(0, 0).receive(1, 0).send(2, 0).meet().explore();
        new EveryOrderTest("two that receive, one that sends", 3)
                .receive(0, 0).receive(1, 0).send(2, 0).meet().explore();
        new EveryOrderTest("three, one with a time-out and taken back", 3)
                .receive(0, 0).receive(1, 0).send(2, 0).back(2).time(2, 1).explore();
        new EveryOrderTest("a chain of three", 3)
                .send(0, 0).receive(1, 0).send(1, 1).receive(2, 1).meet().explore();
        new EveryOrderTest("a chain of three, two taken back", 3)
                .send(0, 0).receive(1, 0).send(1, 1).receive(2, 1).back(1).back(2).explore();
        Due.end();
    }

    private EveryOrderTest send(int p, int channel) {
        guards.add(new Guard(p, Due.SEND, channel));
        return this;
    }

    private EveryOrderTest receive(int p, int channel) {
        guards.add(new Guard(p, Due.RECEIVE, channel));
        return this;
    }

    private EveryOrderTest back(int p) {
        takenBack.add(p);
        return this;
    }

    private EveryOrderTest time(int p, int n) {
        timeouts[p] = n;
        lastTick = Math.max(lastTick, n);
        return this;
    }

    /** In each of these worlds one PAIR is all that can come, and it must. */
    private EveryOrderTest meet() {
        allMeet = true;
        return this;
    }

    private void explore() {
        Set<String> known = new HashSet<>();
        ArrayDeque<Path> open = new ArrayDeque<>();
        open.add(new Path(null, STEP, 0));
        known.add(key(at(open.peek()).m));
        while (!open.isEmpty() && Due.wrongs() == 0) {
            Path path = open.remove();
            State state = at(path);
            String here = key(state.m);
            boolean stands = true;
            for (Path next : nexts(path, state.m)) {
                State after = at(next);
                String there = key(after.m);
                Due.yes(name + ": as Model behind a call", standsAlike(after));
                stands &= next.call != STEP || there.equals(here);
                if (known.add(there)) {
                    open.add(next);
                }
            }
            if (stands && allMeet) {
                Due.is(name + ", nobody goes on: count(2)", state.x.count(2), 1);
            }
            compare(state.x, state.m);
        }
        System.out.println(name + ": " + known.size() + " states");
    }

    private List<Path> nexts(Path path, Model m) {
        List<Path> nexts = new ArrayList<>();
        for (int p = 0; p < processes; p++) {
            nexts.add(new Path(path, STEP, p));
        }
        for (int p : takenBack) {
            nexts.add(new Path(path, CANCEL, p));
        }
        if (m.clock < lastTick) {
            nexts.add(new Path(path, TICK, 0));
        }
        return nexts;
    }

    private State at(Path path) {
        ChoiceBench x = new ChoiceBench(processes);
        Model m = new Model(processes, new HashSet<>());
        for (int p = 0; p < processes; p++) {
            x.spawn(p);
            m.spawn(p);
            x.timeout(p, timeouts[p]);
            m.timeout(p, timeouts[p]);
        }
        for (Guard g : guards) {
            x.guard(g.p, g.kind, g.channel, 50 + g.p, true);
            m.guard(g.p, g.kind, g.channel, 50 + g.p, true);
        }
        for (int p = 0; p < processes; p++) {
            x.offer(p);
            m.offer(p);
        }
        ArrayDeque<Path> calls = new ArrayDeque<>();
        for (Path one = path; one.before != null; one = one.before) {
            calls.push(one);
        }
        State state = new State(x, m);
        int made = 0;
        for (Path one : calls) {
            made++;
            Due.yes(name, answersAlike(state, one) || fails(calls, made));
        }
        return state;
    }

    private static boolean answersAlike(State s, Path one) {
        return switch (one.call) {
            case STEP -> s.x.step(one.p) == s.m.step(one.p);
            case CANCEL -> s.x.cancel(one.p) == s.m.cancel(one.p);
            default -> s.x.tick() == s.m.tick();
        };
    }

    /** Tells the calls up to the one whose answer was not due; the text is made only where it is needed. */
    private static boolean fails(Iterable<Path> calls, int made) {
        StringBuilder s = new StringBuilder("the last of these:");
        int left = made;
        for (Path one : calls) {
            if (left > 0) {
                s.append(CALLS[one.call]).append(one.p);
                left--;
            }
        }
        System.out.println(s);
        return false;
    }

    private boolean standsAlike(State s) {
        boolean alike = true;
        for (int p = 0; p < processes; p++) {
            alike &= s.x.phase(p) == s.m.phase(p) && s.x.word(p, 0) == s.m.word(p, 0);
        }
        return alike;
    }

    private void compare(ChoiceBench x, Model m) {
        Due.is(name + ": doubles()", x.doubles(), 0);
        Due.is(name + ": unmet()", x.unmet(), 0);
        Due.is(name + ": held()", x.held(), 0);
        for (int p = 0; p < processes; p++) {
            Due.is(name + ": phase(" + p + ")", x.phase(p), m.phase(p));
            for (int what = 0; what < 4; what++) {
                Due.is(name + ": word(" + p + ", " + what + ")", x.word(p, what), m.word(p, what));
                Due.is(name + ": outcome(" + p + ", " + what + ")", x.outcome(p, what), m.outcome(p, what));
            }
        }
        for (int what = 0; what < 9; what++) {
            Due.is(name + ": count(" + what + ")", x.count(what), m.count(what));
            Due.is(name + ": pair(0, " + what + ")", x.pair(0, what), m.pair(0, what));
        }
    }

    /** All that bears on what comes. What only counts up, such as STEPS, is left out: states come again. */
    private static String key(Model m) {
        StringBuilder s = new StringBuilder();
        s.append(m.clock);
        for (Model.Process c : m.all) {
            int claimer = c.kind == Model.Kind.CLAIMED ? c.claimer : -1;
            int found = c.found == null ? 0 : c.found.number();
            s.append('/').append(c.phase).append(c.kind).append(claimer);
            s.append(' ').append(c.at).append(' ').append(c.x).append(' ').append(found);
            s.append(c.busy).append(c.withdrawAfterBack).append(c.over);
        }
        for (Model.Entry e : m.entries.values()) {
            s.append(' ').append(e.number()).append(':').append(e.process()).append(':').append(e.channel());
        }
        return s.toString();
    }
}
