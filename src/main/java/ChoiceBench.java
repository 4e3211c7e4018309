/**
 * Rendezvous by choice. Words in capitals are those of the document, ../shared/DOC.md.
 */
public final class ChoiceBench {
    public static final int NONE = -1;

    private static final int MIN_PROCESSES = 2;
    private static final int MAX_PROCESSES = 16;
    private static final int CHANNELS = 8;
    private static final int MAX_GUARDS = 8;
    private static final int MAX_ENTRIES = MAX_PROCESSES * MAX_GUARDS;
    private static final int MAX_TIMEOUT = 1000;
    private static final int MAX_VERSION = 1000;
    private static final int MAX_RUN = 5000;
    private static final int KNOWN_PAIRS = 200;
    private static final int PAIR_PARTS = 8;

    private static final int SEND = 0;
    private static final int RECEIVE = 1;

    private static final int GONE = 0;
    private static final int IDLE = 1;
    private static final int PUBLISH = 2;
    private static final int LOOK = 3;
    private static final int CLAIM = 4;
    private static final int SECOND = 5;
    private static final int BACK = 6;
    private static final int TELL = 7;
    private static final int OWN = 8;
    private static final int END = 9;
    private static final int ASLEEP = 10;
    private static final int WITHDRAW = 11;
    private static final int DONE = 12;

    private static final int FREE = 0;
    private static final int WAITING = 1;
    private static final int CLAIMED = 2;
    private static final int TAKEN = 3;
    private static final int OUT = 4;

    private static final int GOES_ON = 0;
    private static final int SLEEPS = 1;
    private static final int COMMITTED = 2;
    private static final int OVER_BY_TIME = 3;
    private static final int NOT_OFFERED = 4;
    private static final int TAKEN_BACK = 5;

    private final Proc[] procs;
    private final EntryList[] lists;
    private final PairLog pairs;
    private int clock;
    private int steps;
    private int published;
    private int tried;
    private int notWell;
    private int doubled;

    public ChoiceBench(int processes) {
        int many = Math.max(MIN_PROCESSES, Math.min(MAX_PROCESSES, processes));
        procs = new Proc[many];
        for (int i = 0; i < many; i++) {
            procs[i] = new Proc(i);
        }
        lists = new EntryList[CHANNELS];
        for (int i = 0; i < CHANNELS; i++) {
            lists[i] = new EntryList();
        }
        pairs = new PairLog();
    }

    public boolean spawn(int p) {
        Proc c = procIn(p, GONE);
        if (c == null) {
            return false;
        }
        c.becomeIdle();
        return true;
    }

    public boolean quit(int p) {
        Proc c = procIn(p, IDLE);
        if (c == null) {
            return false;
        }
        c.phase = GONE;
        return true;
    }

    public boolean guard(int p, int kind, int channel, int value, boolean on) {
        Proc c = procIn(p, IDLE);
        if (c == null || (kind != SEND && kind != RECEIVE) || listAt(channel) == null) {
            return false;
        }
        return c.addGuard(kind, channel, value, on);
    }

    public boolean timeout(int p, int n) {
        Proc c = procIn(p, IDLE);
        if (c == null || n < 0 || n > MAX_TIMEOUT) {
            return false;
        }
        c.timeOut = n;
        return true;
    }

    public boolean offer(int p) {
        Proc c = procIn(p, IDLE);
        if (c == null || c.word.version >= MAX_VERSION) {
            return false;
        }
        c.beginOffer(clock);
        return true;
    }

    public int step(int p) {
        Proc c = procAt(p);
        if (c == null) {
            return NONE;
        }
        if (c.isOffering()) {
            access(c);
        }
        return c.standing();
    }

    public boolean cancel(int p) {
        Proc c = procAt(p);
        if (c == null || !c.isOffering() || c.word.kind != WAITING) {
            return false;
        }
        putOut(c, TAKEN_BACK);
        if (!c.isClaiming()) {
            c.beginWithdraw();
        }
        return true;
    }

    public boolean finish(int p) {
        Proc c = procIn(p, DONE);
        if (c == null) {
            return false;
        }
        c.word.become(FREE);
        c.becomeIdle();
        return true;
    }

    public int tick() {
        clock++;
        return clock;
    }

    public int run(int n, int seed) {
        int many = procs.length;
        if (n < 0 || n > MAX_RUN || many == 0) {
            return NONE;
        }
        int before = pairs.size;
        int state = seed;
        for (int i = 0; i < n; i++) {
            state = state * 1103515245 + 12345;
            Proc c = procAt((state >>> 16) % many);
            if (c != null && c.isOffering()) {
                access(c);
            }
        }
        return pairs.size - before;
    }

    public int phase(int p) {
        Proc c = procAt(p);
        return c == null ? NONE : c.phase;
    }

    public int word(int p, int what) {
        Proc c = procAt(p);
        return c == null ? NONE : c.word.part(what);
    }

    public int outcome(int p, int what) {
        Proc c = procAt(p);
        return c == null ? NONE : c.told.part(what);
    }

    public int entry(int channel, int i, int what) {
        EntryList list = listAt(channel);
        Entry e = list == null ? null : list.at(i);
        return e == null ? NONE : e.part(what);
    }

    public int pair(int i, int what) {
        return pairs.part(i, what);
    }

    public int doubles() {
        return doubled;
    }

    public int unmet() {
        int couples = 0;
        for (int i = 0; i < procs.length; i++) {
            for (int j = i + 1; j < procs.length; j++) {
                if (sleepUnmet(procs[i], procs[j])) {
                    couples++;
                }
            }
        }
        return couples;
    }

    public int held() {
        int words = 0;
        for (int i = 0; i < procs.length; i++) {
            Word w = procs[i].word;
            Proc claimer = w.kind == CLAIMED ? procAt(w.claimer) : null;
            if (claimer != null && !claimer.isClaiming()) {
                words++;
            }
        }
        return words;
    }

    public int count(int what) {
        switch (what) {
            case 0:
                return procs.length;
            case 1:
                return present();
            case 2:
                return pairs.size;
            case 3:
                return clock;
            case 4:
                return steps;
            case 5:
                return listed();
            case 6:
                return published;
            case 7:
                return tried;
            case 8:
                return notWell;
            default:
                return NONE;
        }
    }

    private Proc procAt(int p) {
        return p >= 0 && p < procs.length ? procs[p] : null;
    }

    private Proc procIn(int p, int phase) {
        Proc c = procAt(p);
        return c != null && c.phase == phase ? c : null;
    }

    private EntryList listAt(int channel) {
        return channel >= 0 && channel < lists.length ? lists[channel] : null;
    }

    private int present() {
        int many = 0;
        for (int i = 0; i < procs.length; i++) {
            if (procs[i].phase != GONE) {
                many++;
            }
        }
        return many;
    }

    private int listed() {
        int many = 0;
        for (int i = 0; i < lists.length; i++) {
            many += lists[i].size;
        }
        return many;
    }

    private static boolean sleepUnmet(Proc a, Proc b) {
        return a.phase == ASLEEP && b.phase == ASLEEP
                && a.word.kind == WAITING && b.word.kind == WAITING
                && a.matches(b);
    }

    private void access(Proc c) {
        steps++;
        if (c.isDue(clock) && c.heedsTime()) {
            runOutOfTime(c);
            return;
        }
        switch (c.phase) {
            case PUBLISH:
                publishEntry(c);
                break;
            case LOOK:
                lookOn(c);
                break;
            case END:
                c.endLooking();
                break;
            case ASLEEP:
                c.wakeIfSettled();
                break;
            case WITHDRAW:
                withdrawEntry(c);
                break;
            default:
                accessToMeet(c);
                break;
        }
    }

    private void accessToMeet(Proc c) {
        Guard g = c.currentGuard();
        Entry e = c.met;
        Proc q = e == null ? null : procAt(e.process);
        if (g == null || q == null) {
            return;
        }
        switch (c.phase) {
            case CLAIM:
                claimLower(c, q, e);
                break;
            case SECOND:
                claimHigher(c, q, e, g);
                break;
            case BACK:
                giveBack(c, q);
                break;
            case TELL:
                tellOther(c, q, g);
                break;
            case OWN:
                takeOwn(c, e, g);
                break;
            default:
                break;
        }
    }

    /** A WORD that is CLAIMED is its claimer's; one that is OUT stays too, as the document has it. */
    private void runOutOfTime(Proc c) {
        if (c.word.kind == WAITING) {
            putOut(c, OVER_BY_TIME);
            c.beginWithdraw();
        } else if (c.word.kind == TAKEN) {
            c.beginWithdraw();
        }
    }

    private void putOut(Proc c, int why) {
        c.word.become(OUT);
        c.over = why;
        c.wasOut = true;
        noteDouble(c);
    }

    private void publishEntry(Proc c) {
        Guard g = c.currentGuard();
        EntryList list = g == null ? null : listAt(g.channel);
        if (g != null && list != null) {
            published++;
            Entry e = new Entry(c.number, c.word.version, g, published);
            list.append(e);
            c.keepEntry(e);
        }
        int next = c.nextOn(c.at + 1);
        if (next == NONE) {
            c.lookFromFirst();
        } else {
            c.at = next;
        }
    }

    private void lookOn(Proc c) {
        Guard g = c.currentGuard();
        EntryList list = g == null ? null : listAt(g.channel);
        Entry e = list == null ? null : list.firstAbove(c.seen);
        if (g == null || e == null) {
            c.lookAtNext();
            return;
        }
        c.seen = e.number;
        if (e.process != c.number && e.kind != g.kind) {
            c.met = e;
            c.phase = CLAIM;
        }
    }

    private void claimLower(Proc c, Proc q, Entry e) {
        Proc lower = c.number < q.number ? c : q;
        if (tryWord(c, lower, e)) {
            c.phase = SECOND;
        } else if (lower == c && c.word.isSettled()) {
            c.beginWithdraw();
        } else {
            noteBusy(c, lower, e);
            c.phase = LOOK;
        }
    }

    private void claimHigher(Proc c, Proc q, Entry e, Guard g) {
        Proc higher = c.number < q.number ? q : c;
        if (tryWord(c, higher, e)) {
            recordPair(c, q, e, g);
            c.phase = TELL;
            return;
        }
        noteBusy(c, higher, e);
        // What counts in BACK is how the WORD is now, not how it will be then.
        c.wasSettled = higher == c && c.word.isSettled();
        c.phase = BACK;
    }

    private void giveBack(Proc c, Proc q) {
        Proc lower = c.number < q.number ? c : q;
        lower.word.become(WAITING);
        if (c.wasSettled) {
            c.beginWithdraw();
        } else {
            c.phase = LOOK;
        }
    }

    private void tellOther(Proc c, Proc q, Guard g) {
        q.word.become(TAKEN);
        q.told.set(c.number, g.channel, g.kind == SEND ? g.value : 0, q.word.version);
        c.phase = OWN;
    }

    private void takeOwn(Proc c, Entry e, Guard g) {
        c.word.become(TAKEN);
        c.told.set(e.process, g.channel, g.kind == RECEIVE ? e.value : 0, c.word.version);
        c.beginWithdraw();
    }

    private void withdrawEntry(Proc c) {
        Entry e = c.firstEntry();
        EntryList list = e == null ? null : listAt(e.channel);
        if (e != null && list != null) {
            list.drop(e.number);
            c.withdrawn++;
        }
        c.beginWithdraw();
    }

    private boolean tryWord(Proc c, Proc target, Entry e) {
        tried++;
        if (target.word.isAt(WAITING, versionSought(c, target, e))) {
            target.word.claimFor(c.number);
            return true;
        }
        notWell++;
        return false;
    }

    private static void noteBusy(Proc c, Proc target, Entry e) {
        if (target.word.isAt(CLAIMED, versionSought(c, target, e))) {
            c.busy = true;
        }
    }

    /** The other one may have OFFERED anew since its ENTRY was read. */
    private static int versionSought(Proc c, Proc target, Entry e) {
        return target == c ? c.word.version : e.version;
    }

    private void recordPair(Proc c, Proc q, Entry e, Guard g) {
        pairs.add(c, e, g, steps);
        c.pairsOfOffer++;
        noteDouble(c);
        q.pairsOfOffer++;
        noteDouble(q);
    }

    /** The steps should never let this count; an OFFER that goes wrong counts once. */
    private void noteDouble(Proc c) {
        boolean wrong = c.pairsOfOffer > 1 || (c.pairsOfOffer == 1 && c.wasOut);
        if (wrong && !c.countedDouble) {
            c.countedDouble = true;
            doubled++;
        }
    }

    private static final class Guard {
        int kind;
        int channel;
        int value;
        boolean on;

        boolean matches(Guard other) {
            return on && other.on && channel == other.channel && kind != other.kind;
        }
    }

    private static final class Word {
        int kind = FREE;
        int version;
        int claimer = NONE;

        void become(int newKind) {
            kind = newKind;
            claimer = NONE;
        }

        void claimFor(int process) {
            kind = CLAIMED;
            claimer = process;
        }

        boolean isAt(int someKind, int someVersion) {
            return kind == someKind && version == someVersion;
        }

        boolean isSettled() {
            return kind == TAKEN || kind == OUT;
        }

        int part(int what) {
            switch (what) {
                case 0:
                    return kind;
                case 1:
                    return version;
                case 2:
                    return claimer;
                default:
                    return NONE;
            }
        }
    }

    private static final class Outcome {
        boolean known;
        int partner;
        int channel;
        int got;
        int version;

        void set(int newPartner, int newChannel, int newGot, int newVersion) {
            known = true;
            partner = newPartner;
            channel = newChannel;
            got = newGot;
            version = newVersion;
        }

        int part(int what) {
            if (!known) {
                return NONE;
            }
            switch (what) {
                case 0:
                    return partner;
                case 1:
                    return channel;
                case 2:
                    return got;
                case 3:
                    return version;
                default:
                    return NONE;
            }
        }
    }

    /** Never changed once made, so a CLAIM may keep it after it has left its LIST. */
    private static final class Entry {
        final int process;
        final int version;
        final int kind;
        final int channel;
        final int value;
        final int number;

        Entry(int process, int version, Guard g, int number) {
            this.process = process;
            this.version = version;
            this.kind = g.kind;
            this.channel = g.channel;
            this.value = g.value;
            this.number = number;
        }

        int part(int what) {
            switch (what) {
                case 0:
                    return process;
                case 1:
                    return kind;
                case 2:
                    return value;
                case 3:
                    return number;
                case 4:
                    return version;
                default:
                    return NONE;
            }
        }
    }

    private static final class EntryList {
        // All GUARDS of all PROCESSES may be on one CHANNEL.
        final Entry[] entries = new Entry[MAX_ENTRIES];
        int size;

        Entry at(int i) {
            return i >= 0 && i < size && i < entries.length ? entries[i] : null;
        }

        void append(Entry e) {
            if (size < entries.length) {
                entries[size] = e;
                size++;
            }
        }

        Entry firstAbove(int number) {
            for (int i = 0; i < size; i++) {
                Entry e = at(i);
                if (e != null && e.number > number) {
                    return e;
                }
            }
            return null;
        }

        void drop(int number) {
            int kept = 0;
            for (int i = 0; i < size; i++) {
                Entry e = at(i);
                if (e != null && e.number != number) {
                    entries[kept] = e;
                    kept++;
                }
            }
            for (int i = kept; i < size; i++) {
                entries[i] = null;
            }
            size = kept;
        }
    }

    private static final class PairLog {
        final int[] parts = new int[KNOWN_PAIRS * PAIR_PARTS];
        int size;

        void add(Proc claimer, Entry met, Guard g, int steps) {
            if (size < KNOWN_PAIRS) {
                int base = size * PAIR_PARTS;
                boolean sends = g.kind == SEND;
                parts[base] = claimer.number;
                parts[base + 1] = met.process;
                parts[base + 2] = g.channel;
                parts[base + 3] = sends ? g.value : met.value;
                parts[base + 4] = sends ? claimer.number : met.process;
                parts[base + 5] = claimer.word.version;
                parts[base + 6] = met.version;
                parts[base + 7] = steps;
            }
            size++;
        }

        int part(int i, int what) {
            if (i < 0 || i >= size || i >= KNOWN_PAIRS || what < 0 || what >= PAIR_PARTS) {
                return NONE;
            }
            return parts[i * PAIR_PARTS + what];
        }
    }

    private static final class Proc {
        final int number;
        final Word word = new Word();
        final Outcome told = new Outcome();
        final Guard[] guards = new Guard[MAX_GUARDS];
        final Entry[] entries = new Entry[MAX_GUARDS];
        int phase = GONE;
        int guardCount;
        int timeOut;
        int dueAt = NONE;
        int at;
        int seen;
        Entry met;
        boolean busy;
        boolean wasSettled;
        int over;
        int entryCount;
        int withdrawn;
        int pairsOfOffer;
        boolean wasOut;
        boolean countedDouble;

        Proc(int number) {
            this.number = number;
            for (int i = 0; i < MAX_GUARDS; i++) {
                guards[i] = new Guard();
            }
        }

        void becomeIdle() {
            phase = IDLE;
            guardCount = 0;
            timeOut = 0;
        }

        boolean addGuard(int kind, int channel, int value, boolean on) {
            if (guardCount >= guards.length) {
                return false;
            }
            Guard g = guards[guardCount];
            g.kind = kind;
            g.channel = channel;
            g.value = value;
            g.on = on;
            guardCount++;
            return true;
        }

        void beginOffer(int clock) {
            word.version++;
            word.become(WAITING);
            dueAt = timeOut > 0 ? clock + timeOut : NONE;
            busy = false;
            wasSettled = false;
            met = null;
            over = 0;
            entryCount = 0;
            withdrawn = 0;
            pairsOfOffer = 0;
            wasOut = false;
            countedDouble = false;
            int first = nextOn(0);
            at = Math.max(first, 0);
            phase = first == NONE ? END : PUBLISH;
        }

        boolean isOffering() {
            return phase >= PUBLISH && phase <= WITHDRAW;
        }

        boolean isClaiming() {
            return phase >= SECOND && phase <= OWN;
        }

        boolean heedsTime() {
            return phase == PUBLISH || phase == LOOK || phase == END || phase == ASLEEP;
        }

        boolean isDue(int clock) {
            return dueAt != NONE && clock >= dueAt;
        }

        int standing() {
            switch (phase) {
                case GONE:
                    return NONE;
                case IDLE:
                    return NOT_OFFERED;
                case ASLEEP:
                    return SLEEPS;
                case DONE:
                    return word.kind == TAKEN ? COMMITTED : over;
                default:
                    return GOES_ON;
            }
        }

        Guard currentGuard() {
            return at >= 0 && at < guardCount && at < guards.length ? guards[at] : null;
        }

        int nextOn(int from) {
            for (int i = Math.max(from, 0); i < guardCount && i < guards.length; i++) {
                if (guards[i].on) {
                    return i;
                }
            }
            return NONE;
        }

        void lookFromFirst() {
            int first = nextOn(0);
            if (first == NONE) {
                phase = ASLEEP;
                return;
            }
            lookAt(first);
        }

        void lookAtNext() {
            int next = nextOn(at + 1);
            if (next == NONE) {
                phase = END;
                return;
            }
            lookAt(next);
        }

        void lookAt(int guardIndex) {
            at = guardIndex;
            seen = 0;
            phase = LOOK;
        }

        void endLooking() {
            if (word.isSettled()) {
                beginWithdraw();
            } else if (busy) {
                busy = false;
                lookFromFirst();
            } else {
                phase = ASLEEP;
            }
        }

        void wakeIfSettled() {
            if (word.isSettled()) {
                beginWithdraw();
            }
        }

        void keepEntry(Entry e) {
            if (entryCount < entries.length) {
                entries[entryCount] = e;
                entryCount++;
            }
        }

        Entry firstEntry() {
            return withdrawn >= 0 && withdrawn < entryCount && withdrawn < entries.length
                    ? entries[withdrawn] : null;
        }

        void beginWithdraw() {
            phase = firstEntry() == null ? DONE : WITHDRAW;
        }

        boolean matches(Proc other) {
            for (int i = 0; i < guardCount && i < guards.length; i++) {
                for (int j = 0; j < other.guardCount && j < other.guards.length; j++) {
                    if (guards[i].matches(other.guards[j])) {
                        return true;
                    }
                }
            }
            return false;
        }
    }
}
