import java.util.ArrayList;
import java.util.HashMap;
import java.util.HashSet;
import java.util.List;
import java.util.Map;
import java.util.Set;
import java.util.TreeMap;

/** The document told once more, with the library's sets and maps and with no thought of room. */
final class Model implements Face {
    private enum Kind { ADD, FENCE, READ, ADDED, REFUSED, FENCED, GOT, MISSING }

    private enum WriterState { WRITING, STOPPED, DONE, GONE }

    private enum RecovererState { IDLE, FENCING, READING, WRITING_BACK, DONE }

    private enum LedgerState { OPEN, RECOVERING, CLOSED }

    private record Msg(Kind kind, int client, int store, int e, int value, int term, int mark) {}

    private static final class Shelf {
        boolean up = true;
        boolean fenced = false;
        int mark = -1;
        final Map<Integer, Integer> entries = new HashMap<>();
    }

    private static final class Rec {
        RecovererState state = RecovererState.IDLE;
        int term = 0;
        int e = 0;
        int highest = -1;
        Set<Integer> answered = new HashSet<>();
        List<Msg> sentLast = new ArrayList<>();
    }

    private final int n;
    private final int w;
    private final int q;
    private final List<Shelf> shelves = new ArrayList<>();
    private final List<Msg> channel = new ArrayList<>();
    private final List<Integer> added = new ArrayList<>();
    private final List<Set<Integer>> answeredTo = new ArrayList<>();
    private final Map<Integer, Rec> recs = new TreeMap<>(Map.of(1, new Rec(), 2, new Rec()));
    private WriterState writing = WriterState.WRITING;
    private int lac = -1;
    private LedgerState state = LedgerState.OPEN;
    private int version = 0;
    private int last = -1;

    Model(int n, int w, int q) {
        this.n = n < 3 ? 3 : n > 5 ? 5 : n;
        this.w = w < 2 ? 2 : w > this.n ? this.n : w;
        this.q = q < 1 ? 1 : q > this.w ? this.w : q;
        for (int s = 0; s < this.n; s++) {
            shelves.add(new Shelf());
        }
    }

    private List<Integer> setOf(int e) {
        List<Integer> set = new ArrayList<>();
        for (int j = 0; j < w; j++) {
            set.add((e + j) % n);
        }
        return set;
    }

    private void send(Msg m) {
        if (channel.size() < 20) {
            channel.add(m);
        }
    }

    @Override
    public int add(int value) {
        if (writing != WriterState.WRITING) {
            throw new IllegalStateException();
        }
        int e = added.size();
        if (e == 20 || e - 1 - lac == 4) {
            throw new IndexOutOfBoundsException();
        }
        added.add(value);
        answeredTo.add(new HashSet<>());
        setOf(e).forEach(s -> send(new Msg(Kind.ADD, 0, s, e, value, 0, lac)));
        return e;
    }

    @Override
    public int resend(int e) {
        if (writing != WriterState.WRITING || e < 0 || e >= added.size()) {
            return -1;
        }
        List<Integer> rest = setOf(e);
        rest.removeAll(answeredTo.get(e));
        if (e <= lac && rest.isEmpty()) {
            return -1;
        }
        rest.forEach(s -> send(new Msg(Kind.ADD, 0, s, e, added.get(e), 0, lac)));
        return rest.size();
    }

    @Override
    public boolean close() {
        if (writing != WriterState.WRITING || state != LedgerState.OPEN) {
            return false;
        }
        state = LedgerState.CLOSED;
        last = lac;
        version += 1;
        writing = WriterState.DONE;
        return true;
    }

    @Override
    public boolean leave() {
        boolean was = writing != WriterState.GONE;
        writing = WriterState.GONE;
        return was;
    }

    @Override
    public boolean recover(int r) {
        Rec rec = recs.get(r);
        if (rec == null || rec.state != RecovererState.IDLE) {
            return false;
        }
        if (state == LedgerState.CLOSED) {
            rec.state = RecovererState.DONE;
            return true;
        }
        state = LedgerState.RECOVERING;
        version += 1;
        rec.term = version;
        rec.highest = -1;
        List<Msg> fences = new ArrayList<>();
        for (int s = 0; s < n; s++) {
            fences.add(new Msg(Kind.FENCE, r, s, 0, 0, rec.term, 0));
        }
        step(rec, RecovererState.FENCING, fences);
        return true;
    }

    private void step(Rec rec, RecovererState next, List<Msg> messages) {
        rec.state = next;
        rec.answered = new HashSet<>();
        rec.sentLast = messages;
        messages.forEach(this::send);
    }

    private boolean isBusy(int r) {
        Rec rec = recs.get(r);
        return rec != null
                && rec.state != RecovererState.IDLE
                && rec.state != RecovererState.DONE;
    }

    @Override
    public int retry(int r) {
        if (!isBusy(r)) {
            return -1;
        }
        Rec rec = recs.get(r);
        List<Msg> again = new ArrayList<>(rec.sentLast);
        again.removeIf(m -> rec.answered.contains(m.store()));
        again.forEach(this::send);
        return again.size();
    }

    @Override
    public boolean abandon(int r) {
        if (!isBusy(r)) {
            return false;
        }
        recs.get(r).state = RecovererState.IDLE;
        return true;
    }

    private boolean inChannel(int i) {
        return i >= 0 && i < channel.size();
    }

    @Override
    public int deliver(int i) {
        if (!inChannel(i)) {
            return -1;
        }
        Msg m = channel.remove(i);
        switch (m.kind()) {
            case ADD, FENCE, READ -> {
                if (shelves.get(m.store()).up) {
                    send(answer(shelves.get(m.store()), m));
                }
            }
            default -> {
                if (m.client() == 0) {
                    tellWriter(m);
                } else if (recs.get(m.client()).term == m.term()) {
                    tellRecoverer(m.client(), recs.get(m.client()), m);
                }
            }
        }
        return m.kind().ordinal();
    }

    private static Msg answer(Shelf shelf, Msg m) {
        if (m.kind() == Kind.ADD) {
            if (m.client() == 0 && shelf.fenced) {
                return new Msg(Kind.REFUSED, 0, m.store(), m.e(), 0, 0, 0);
            }
            shelf.entries.put(m.e(), m.value());
            if (m.mark() > shelf.mark) {
                shelf.mark = m.mark();
            }
            return new Msg(Kind.ADDED, m.client(), m.store(), m.e(), 0, m.term(), 0);
        }
        shelf.fenced = true;
        if (m.kind() == Kind.FENCE) {
            return new Msg(Kind.FENCED, m.client(), m.store(), 0, shelf.mark, m.term(), 0);
        }
        Integer value = shelf.entries.get(m.e());
        return value != null
                ? new Msg(Kind.GOT, m.client(), m.store(), m.e(), value, m.term(), 0)
                : new Msg(Kind.MISSING, m.client(), m.store(), m.e(), 0, m.term(), 0);
    }

    private void tellWriter(Msg m) {
        if (writing != WriterState.WRITING) {
            return;
        }
        if (m.kind() == Kind.REFUSED) {
            writing = WriterState.STOPPED;
            return;
        }
        answeredTo.get(m.e()).add(m.store());
        while (lac + 1 < added.size() && answeredTo.get(lac + 1).size() >= q) {
            lac += 1;
        }
    }

    private void tellRecoverer(int r, Rec rec, Msg m) {
        boolean ofE = m.e() == rec.e;
        if (m.kind() == Kind.FENCED && rec.state == RecovererState.FENCING) {
            rec.answered.add(m.store());
            rec.highest = m.value() > rec.highest ? m.value() : rec.highest;
            if (allSetsFenced(rec)) {
                readOn(r, rec, rec.highest + 1);
            }
        } else if (m.kind() == Kind.GOT && rec.state == RecovererState.READING && ofE) {
            List<Msg> adds = new ArrayList<>();
            setOf(m.e()).forEach(
                    s -> adds.add(
                            new Msg(Kind.ADD, r, s, m.e(), m.value(), rec.term, m.e() - 1)));
            step(rec, RecovererState.WRITING_BACK, adds);
        } else if (m.kind() == Kind.MISSING && rec.state == RecovererState.READING && ofE) {
            rec.answered.add(m.store());
            if (rec.answered.size() == w - q + 1) {
                finish(rec, rec.e);
            }
        } else if (m.kind() == Kind.ADDED && rec.state == RecovererState.WRITING_BACK && ofE) {
            rec.answered.add(m.store());
            if (rec.answered.size() == q) {
                readOn(r, rec, m.e() + 1);
            }
        }
    }

    private boolean allSetsFenced(Rec rec) {
        for (int e = 0; e < n; e++) {
            List<Integer> silent = setOf(e);
            silent.removeAll(rec.answered);
            if (silent.size() >= q) {
                return false;
            }
        }
        return true;
    }

    private void readOn(int r, Rec rec, int e) {
        if (e == 20) {
            finish(rec, e);
            return;
        }
        rec.e = e;
        List<Msg> reads = new ArrayList<>();
        setOf(e).forEach(s -> reads.add(new Msg(Kind.READ, r, s, e, 0, rec.term, 0)));
        step(rec, RecovererState.READING, reads);
    }

    private void finish(Rec rec, int e) {
        if (state == LedgerState.RECOVERING && version == rec.term) {
            state = LedgerState.CLOSED;
            last = e - 1;
            version += 1;
        }
        rec.state = state == LedgerState.CLOSED ? RecovererState.DONE : RecovererState.IDLE;
    }

    @Override
    public boolean lose(int i) {
        return inChannel(i) && channel.remove(i) != null;
    }

    @Override
    public int flight() {
        return channel.size();
    }

    private static int pick(int k, int... parts) {
        return k >= 0 && k < parts.length ? parts[k] : -1;
    }

    @Override
    public int message(int i, int k) {
        if (!inChannel(i)) {
            return -1;
        }
        Msg m = channel.get(i);
        return pick(
                k, m.kind().ordinal(), m.client(), m.store(), m.e(), m.value(), m.term(), m.mark());
    }

    private boolean isStore(int s) {
        return s >= 0 && s < n;
    }

    @Override
    public boolean power(int s, boolean up) {
        if (!isStore(s) || shelves.get(s).up == up) {
            return false;
        }
        shelves.get(s).up = up;
        return true;
    }

    @Override
    public int store(int s, int k) {
        if (!isStore(s)) {
            return -1;
        }
        Shelf shelf = shelves.get(s);
        return pick(k, shelf.up ? 1 : 0, shelf.fenced ? 1 : 0, shelf.mark, shelf.entries.size());
    }

    @Override
    public boolean has(int s, int e) {
        return isStore(s) && shelves.get(s).entries.containsKey(e);
    }

    @Override
    public int writer(int k) {
        return pick(k, writing.ordinal(), added.size(), lac);
    }

    @Override
    public int answers(int e) {
        return e >= 0 && e < added.size() ? answeredTo.get(e).size() : -1;
    }

    @Override
    public int recoverer(int r, int k) {
        Rec rec = recs.get(r);
        return rec == null
                ? -1
                : pick(k, rec.state.ordinal(), rec.term, rec.e, rec.answered.size(), rec.highest);
    }

    @Override
    public int ledger(int k) {
        return pick(k, state.ordinal(), version, state == LedgerState.CLOSED ? last : -1);
    }

    @Override
    public int read(int e) {
        if (state != LedgerState.CLOSED) {
            throw new IllegalStateException();
        }
        if (e < 0 || e > last) {
            throw new IndexOutOfBoundsException();
        }
        for (int s : setOf(e)) {
            if (shelves.get(s).up && shelves.get(s).entries.containsKey(e)) {
                return shelves.get(s).entries.get(e);
            }
        }
        throw new UnsupportedOperationException();
    }
}
