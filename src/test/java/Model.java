import java.util.ArrayList;
import java.util.HashMap;
import java.util.HashSet;
import java.util.List;
import java.util.Map;
import java.util.Set;
import java.util.TreeMap;

/**
 * A second reading of the document, held in another way than the class: one row of ENTRIES by NUMBER
 * for all CHANNELS, and what was ever so for each OFFER, from which doubles() is counted anew. It also
 * notes which of the document's branches were taken, so that a test can tell that it saw all.
 */
final class Model {
    enum Phase { GONE, IDLE, PUBLISH, LOOK, CLAIM, SECOND, BACK, TELL, OWN, END, ASLEEP, WITHDRAW, DONE }

    enum Kind { FREE, WAITING, CLAIMED, TAKEN, OUT }

    record Guard(int kind, int channel, int value, boolean on) { }

    record Entry(int process, int version, int kind, int value, int channel, int number) { }

    static final class Process {
        final int id;
        Phase phase = Phase.GONE;
        Kind kind = Kind.FREE;
        int version = 0;
        int claimer = -1;
        final List<Guard> guards = new ArrayList<>();
        int timeout = 0;
        Integer due = null;
        List<Guard> on = List.of();
        int at = 0;
        int x = 0;
        Entry found = null;
        boolean busy = false;
        boolean withdrawAfterBack = false;
        int over = 0;
        int[] outcome = null;

        Process(int id) {
            this.id = id;
        }

        boolean offering() {
            return phase.compareTo(Phase.PUBLISH) >= 0 && phase.compareTo(Phase.WITHDRAW) <= 0;
        }

        boolean settled() {
            return kind == Kind.TAKEN || kind == Kind.OUT;
        }
    }

    final List<Process> all = new ArrayList<>();
    final TreeMap<Integer, Entry> entries = new TreeMap<>();
    final List<int[]> pairs = new ArrayList<>();
    final Set<List<Integer>> outs = new HashSet<>();
    final Set<String> branches;
    int clock = 0;
    int steps = 0;
    int published = 0;
    int tried = 0;
    int failed = 0;

    Model(int processes, Set<String> branches) {
        int many = processes < 2 ? 2 : processes > 16 ? 16 : processes;
        for (int i = 0; i < many; i++) {
            all.add(new Process(i));
        }
        this.branches = branches;
    }

    private void note(String branch) {
        branches.add(branch);
    }

    private Process find(int p) {
        return p < 0 || p >= all.size() ? null : all.get(p);
    }

    private boolean is(int p, Phase phase) {
        return find(p) != null && find(p).phase == phase;
    }

    private void idle(Process c) {
        c.phase = Phase.IDLE;
        c.guards.clear();
        c.timeout = 0;
    }

    boolean spawn(int p) {
        if (!is(p, Phase.GONE)) {
            return false;
        }
        idle(find(p));
        return true;
    }

    boolean quit(int p) {
        if (!is(p, Phase.IDLE)) {
            return false;
        }
        find(p).phase = Phase.GONE;
        return true;
    }

    boolean guard(int p, int kind, int channel, int value, boolean on) {
        if (!is(p, Phase.IDLE) || kind < 0 || kind > 1 || channel < 0 || channel > 7
                || find(p).guards.size() == 8) {
            return false;
        }
        return find(p).guards.add(new Guard(kind, channel, value, on));
    }

    boolean timeout(int p, int n) {
        if (!is(p, Phase.IDLE) || n < 0 || n > 1000) {
            return false;
        }
        find(p).timeout = n;
        return true;
    }

    boolean offer(int p) {
        if (!is(p, Phase.IDLE) || find(p).version == 1000) {
            return false;
        }
        Process c = find(p);
        c.version++;
        c.kind = Kind.WAITING;
        c.busy = false;
        c.due = c.timeout == 0 ? null : Integer.valueOf(clock + c.timeout);
        c.on = c.guards.stream().filter(Guard::on).toList();
        c.at = 0;
        c.phase = c.on.isEmpty() ? Phase.END : Phase.PUBLISH;
        return true;
    }

    int step(int p) {
        Process c = find(p);
        if (c == null || c.phase == Phase.GONE) {
            return -1;
        }
        if (c.phase == Phase.IDLE) {
            return 4;
        }
        if (c.offering()) {
            move(c);
        }
        if (c.phase == Phase.DONE) {
            return c.kind == Kind.TAKEN ? 2 : c.over;
        }
        return c.phase == Phase.ASLEEP ? 1 : 0;
    }

    boolean cancel(int p) {
        Process c = find(p);
        if (c == null || !c.offering() || c.kind != Kind.WAITING) {
            return false;
        }
        out(c, 5);
        note("cancel in " + c.phase);
        switch (c.phase) {
            case PUBLISH, LOOK, CLAIM, END, ASLEEP -> withdrawFollows(c);
            default -> { }
        }
        return true;
    }

    boolean finish(int p) {
        if (!is(p, Phase.DONE)) {
            return false;
        }
        find(p).kind = Kind.FREE;
        idle(find(p));
        return true;
    }

    int tick() {
        return ++clock;
    }

    int run(int n, int seed) {
        if (n < 0 || n > 5000) {
            return -1;
        }
        int before = pairs.size();
        for (int i = 0; i < n; i++) {
            seed = seed * 1103515245 + 12345;
            Process c = all.get((seed >>> 16) % all.size());
            if (c.offering()) {
                move(c);
            }
        }
        return pairs.size() - before;
    }

    private void out(Process c, int why) {
        c.kind = Kind.OUT;
        c.over = why;
        outs.add(List.of(c.id, c.version));
    }

    private void withdrawFollows(Process c) {
        boolean left = entries.values().stream().anyMatch(e -> e.process == c.id);
        c.phase = left ? Phase.WITHDRAW : Phase.DONE;
    }

    private void move(Process c) {
        steps++;
        boolean heeds = switch (c.phase) {
            case PUBLISH, LOOK, END, ASLEEP -> true;
            default -> false;
        };
        boolean due = c.due != null && clock >= c.due;
        if (due) {
            note("due in " + c.phase);
        }
        if (due && heeds) {
            note("due and " + c.kind);
            if (c.kind == Kind.WAITING) {
                out(c, 3);
                withdrawFollows(c);
            } else if (c.kind == Kind.TAKEN) {
                withdrawFollows(c);
            }
            return;
        }
        switch (c.phase) {
            case PUBLISH -> publish(c);
            case LOOK -> look(c);
            case CLAIM -> claim(c);
            case SECOND -> second(c);
            case BACK -> back(c);
            case TELL -> tell(c);
            case OWN -> own(c);
            case END -> end(c);
            case ASLEEP -> {
                note("asleep and " + c.kind);
                if (c.settled()) {
                    withdrawFollows(c);
                }
            }
            case WITHDRAW -> withdraw(c);
            default -> throw new IllegalStateException();
        }
    }

    private void publish(Process c) {
        Guard g = c.on.get(c.at);
        published++;
        entries.put(published, new Entry(c.id, c.version, g.kind, g.value, g.channel, published));
        note("publish while " + c.kind);
        c.at++;
        if (c.at == c.on.size()) {
            lookAgain(c);
        }
    }

    private void lookAgain(Process c) {
        c.at = 0;
        c.x = 0;
        c.phase = Phase.LOOK;
    }

    private void look(Process c) {
        Guard g = c.on.get(c.at);
        for (Entry e : entries.tailMap(c.x, false).values()) {
            if (e.channel != g.channel) {
                continue;
            }
            c.x = e.number;
            if (e.process != c.id && e.kind + g.kind == 1) {
                c.found = e;
                c.phase = Phase.CLAIM;
            } else {
                note(e.process == c.id ? "look: its own" : "look: the same kind");
            }
            return;
        }
        c.at++;
        c.x = 0;
        if (c.at == c.on.size()) {
            c.phase = Phase.END;
        }
    }

    private boolean attempt(Process c, Process w, int version) {
        tried++;
        if (w.kind == Kind.WAITING && w.version == version) {
            w.kind = Kind.CLAIMED;
            w.claimer = c.id;
            return true;
        }
        failed++;
        return false;
    }

    private void claim(Process c) {
        Process q = all.get(c.found.process);
        boolean ownFirst = c.id < q.id;
        String who = ownFirst ? "own" : "other";
        boolean well = ownFirst ? attempt(c, c, c.version) : attempt(c, q, c.found.version);
        if (well) {
            note("claim: " + who + " well");
            c.phase = Phase.SECOND;
            return;
        }
        Process w = ownFirst ? c : q;
        boolean same = ownFirst || q.version == c.found.version;
        note("claim: " + who + " " + w.kind + (same ? "" : " anew"));
        if (ownFirst && c.settled()) {
            withdrawFollows(c);
            return;
        }
        c.busy |= w.kind == Kind.CLAIMED && same;
        c.phase = Phase.LOOK;
    }

    private void second(Process c) {
        Process q = all.get(c.found.process);
        boolean ownLast = c.id > q.id;
        String who = ownLast ? "own" : "other";
        boolean well = ownLast ? attempt(c, c, c.version) : attempt(c, q, c.found.version);
        if (well) {
            note("second: " + who + " well");
            Guard g = c.on.get(c.at);
            int sent = g.kind == 0 ? g.value : c.found.value;
            int sender = g.kind == 0 ? c.id : q.id;
            pairs.add(new int[] {c.id, q.id, g.channel, sent, sender, c.version, c.found.version, steps});
            c.phase = Phase.TELL;
            return;
        }
        Process w = ownLast ? c : q;
        boolean same = ownLast || q.version == c.found.version;
        note("second: " + who + " " + w.kind + (same ? "" : " anew"));
        c.busy |= w.kind == Kind.CLAIMED && same;
        c.withdrawAfterBack = ownLast && c.settled();
        c.phase = Phase.BACK;
    }

    private void back(Process c) {
        Process lower = all.get(Math.min(c.id, c.found.process));
        note("back: own " + c.kind + (c.withdrawAfterBack ? ", withdraw" : ", look"));
        lower.kind = Kind.WAITING;
        if (c.withdrawAfterBack) {
            withdrawFollows(c);
        } else {
            c.phase = Phase.LOOK;
        }
    }

    private void tell(Process c) {
        Process q = all.get(c.found.process);
        Guard g = c.on.get(c.at);
        q.kind = Kind.TAKEN;
        q.outcome = new int[] {c.id, g.channel, g.kind == 0 ? g.value : 0, q.version};
        note("tell one in " + q.phase);
        c.phase = Phase.OWN;
    }

    private void own(Process c) {
        Guard g = c.on.get(c.at);
        c.kind = Kind.TAKEN;
        c.outcome = new int[] {c.found.process, g.channel, g.kind == 1 ? c.found.value : 0, c.version};
        withdrawFollows(c);
    }

    private void end(Process c) {
        note("end and " + c.kind + (c.busy ? ", busy" : ""));
        if (c.settled()) {
            withdrawFollows(c);
        } else if (c.busy && !c.on.isEmpty()) {
            c.busy = false;
            lookAgain(c);
        } else {
            c.busy = false;
            c.phase = Phase.ASLEEP;
        }
    }

    private void withdraw(Process c) {
        int first = entries.values().stream().filter(e -> e.process == c.id)
                .mapToInt(Entry::number).min().getAsInt();
        entries.remove(first);
        withdrawFollows(c);
    }

    int phase(int p) {
        return find(p) == null ? -1 : find(p).phase.ordinal();
    }

    int word(int p, int what) {
        Process c = find(p);
        if (c == null || what < 0 || what > 2) {
            return -1;
        }
        int claimer = c.kind == Kind.CLAIMED ? c.claimer : -1;
        return new int[] {c.kind.ordinal(), c.version, claimer}[what];
    }

    int outcome(int p, int what) {
        Process c = find(p);
        return c == null || c.outcome == null || what < 0 || what > 3 ? -1 : c.outcome[what];
    }

    int entry(int channel, int i, int what) {
        List<Entry> list = entries.values().stream().filter(e -> e.channel == channel).toList();
        if (i < 0 || i >= list.size() || what < 0 || what > 4) {
            return -1;
        }
        Entry e = list.get(i);
        return new int[] {e.process, e.kind, e.value, e.number, e.version}[what];
    }

    int pair(int i, int what) {
        return i < 0 || i >= pairs.size() || i >= 200 || what < 0 || what > 7 ? -1 : pairs.get(i)[what];
    }

    int doubles() {
        Map<List<Integer>, Integer> times = new HashMap<>();
        for (int[] pair : pairs) {
            times.merge(List.of(pair[0], pair[5]), 1, Integer::sum);
            times.merge(List.of(pair[1], pair[6]), 1, Integer::sum);
        }
        return (int) times.entrySet().stream()
                .filter(t -> t.getValue() > 1 || outs.contains(t.getKey())).count();
    }

    int unmet() {
        int many = 0;
        for (Process a : all) {
            for (Process b : all) {
                boolean sleep = a.phase == Phase.ASLEEP && b.phase == Phase.ASLEEP
                        && a.kind == Kind.WAITING && b.kind == Kind.WAITING;
                if (a.id < b.id && sleep && match(a, b)) {
                    many++;
                }
            }
        }
        return many;
    }

    private static boolean match(Process a, Process b) {
        return a.on.stream().anyMatch(g -> b.on.stream()
                .anyMatch(h -> g.channel == h.channel && g.kind + h.kind == 1));
    }

    int held() {
        return (int) all.stream().filter(c -> c.kind == Kind.CLAIMED)
                .filter(c -> switch (all.get(c.claimer).phase) {
                    case SECOND, BACK, TELL, OWN -> false;
                    default -> true;
                }).count();
    }

    int count(int what) {
        int present = (int) all.stream().filter(c -> c.phase != Phase.GONE).count();
        int[] counts = {all.size(), present, pairs.size(), clock, steps, entries.size(),
            published, tried, failed};
        return what < 0 || what >= counts.length ? -1 : counts[what];
    }
}
