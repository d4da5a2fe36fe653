/**
 * A ledger whose entries one writer spreads over several stores; others can fence the writer out,
 * write back what counted and close the ledger at one point for all.
 *
 * <p>All rows are made by the constructor and used again, so that a call makes no object but the
 * exception that it throws. A set of stores is an int whose bit s stands for store s.
 */
public final class FencedLedger {
    public static final int NONE = -1;

    private static final int ENTRY_LIMIT = 20;
    private static final int CHANNEL_LIMIT = 20;
    private static final int ABOVE_LAC_LIMIT = 4;
    private static final int WRITER_CLIENT = 0;
    private static final int RECOVERER_COUNT = 2;

    private static final int ADD = 0;
    private static final int FENCE = 1;
    private static final int READ = 2;
    private static final int ADDED = 3;
    private static final int REFUSED = 4;
    private static final int FENCED = 5;
    private static final int GOT = 6;
    private static final int MISSING = 7;

    private static final int LEDGER_OPEN = 0;
    private static final int LEDGER_RECOVERING = 1;
    private static final int LEDGER_CLOSED = 2;

    private static final int WRITER_WRITING = 0;
    private static final int WRITER_STOPPED = 1;
    private static final int WRITER_DONE = 2;
    private static final int WRITER_GONE = 3;

    private static final int IDLE = 0;
    private static final int FENCING = 1;
    private static final int READING = 2;
    private static final int WRITING_BACK = 3;
    private static final int DONE = 4;

    private final int storeCount;
    private final int setSize;
    private final int quorum;
    private final Store[] stores;
    private final Channel channel;
    private final Writer theWriter;
    private final Recoverer[] recoverers;
    private int ledgerState;
    private int ledgerVersion;
    private int ledgerLast;

    public FencedLedger(int n, int w, int q) {
        storeCount = nearest(n, 3, 5);
        setSize = nearest(w, 2, storeCount);
        quorum = nearest(q, 1, setSize);
        stores = new Store[storeCount];
        for (int s = 0; s < storeCount; s++) {
            stores[s] = new Store();
        }
        channel = new Channel();
        theWriter = new Writer();
        recoverers = new Recoverer[RECOVERER_COUNT];
        for (int k = 0; k < RECOVERER_COUNT; k++) {
            recoverers[k] = new Recoverer(k + 1);
        }
        ledgerState = LEDGER_OPEN;
        ledgerVersion = 0;
        ledgerLast = NONE;
    }

    // The writer

    public int add(int value) throws IllegalStateException, IndexOutOfBoundsException {
        if (theWriter.state != WRITER_WRITING) {
            throw new IllegalStateException("the writer is not writing");
        }
        if (theWriter.isFull()) {
            throw new IndexOutOfBoundsException("too many entries");
        }
        int e = theWriter.append(value);
        sendWritersAdd(e);
        return e;
    }

    public int resend(int e) {
        if (theWriter.state != WRITER_WRITING || !theWriter.knows(e)) {
            return NONE;
        }
        if (e <= theWriter.lac && theWriter.countAnswers(e) == setSize) {
            return NONE;
        }
        return sendWritersAdd(e);
    }

    public boolean close() {
        if (theWriter.state != WRITER_WRITING || ledgerState != LEDGER_OPEN) {
            return false;
        }
        shutLedger(theWriter.lac);
        theWriter.state = WRITER_DONE;
        return true;
    }

    public boolean leave() {
        if (theWriter.state == WRITER_GONE) {
            return false;
        }
        theWriter.state = WRITER_GONE;
        return true;
    }

    public int writer(int w) {
        switch (w) {
            case 0:
                return theWriter.state;
            case 1:
                return theWriter.entryCount;
            case 2:
                return theWriter.lac;
            default:
                return NONE;
        }
    }

    public int answers(int e) {
        return theWriter.knows(e) ? theWriter.countAnswers(e) : NONE;
    }

    // The recoverers

    public boolean recover(int r) {
        if (!isRecoverer(r) || recoverers[r - 1].state != IDLE) {
            return false;
        }
        Recoverer recoverer = recoverers[r - 1];
        if (ledgerState == LEDGER_CLOSED) {
            recoverer.state = DONE;
            return true;
        }
        ledgerState = LEDGER_RECOVERING;
        ledgerVersion++;
        recoverer.beginFencing(ledgerVersion);
        sendStep(recoverer);
        return true;
    }

    public int retry(int r) {
        if (!isRecoverer(r) || !recoverers[r - 1].isBusy()) {
            return NONE;
        }
        return sendStep(recoverers[r - 1]);
    }

    public boolean abandon(int r) {
        if (!isRecoverer(r) || !recoverers[r - 1].isBusy()) {
            return false;
        }
        recoverers[r - 1].state = IDLE;
        return true;
    }

    public int recoverer(int r, int w) {
        if (!isRecoverer(r)) {
            return NONE;
        }
        return recoverers[r - 1].detail(w);
    }

    // The channel

    public int deliver(int i) {
        if (!channel.holds(i)) {
            return NONE;
        }
        Message m = channel.takeOut(i);
        if (m.isToStore()) {
            reachStore(m);
        } else if (m.client == WRITER_CLIENT) {
            theWriter.hear(m, quorum);
        } else {
            reachRecoverer(m);
        }
        return m.kind;
    }

    public boolean lose(int i) {
        if (!channel.holds(i)) {
            return false;
        }
        channel.takeOut(i);
        return true;
    }

    public int flight() {
        return channel.count;
    }

    public int message(int i, int w) {
        if (!channel.holds(i)) {
            return NONE;
        }
        return channel.rows[i].detail(w);
    }

    // The stores

    public boolean power(int s, boolean up) {
        if (!isStore(s) || stores[s].up == up) {
            return false;
        }
        stores[s].up = up;
        return true;
    }

    public int store(int s, int w) {
        if (!isStore(s)) {
            return NONE;
        }
        return stores[s].detail(w);
    }

    public boolean has(int s, int e) {
        return isStore(s) && isEntry(e) && stores[s].kept[e];
    }

    // The ledger

    public int ledger(int w) {
        switch (w) {
            case 0:
                return ledgerState;
            case 1:
                return ledgerVersion;
            case 2:
                return ledgerState == LEDGER_CLOSED ? ledgerLast : NONE;
            default:
                return NONE;
        }
    }

    public int read(int e)
            throws IllegalStateException, IndexOutOfBoundsException, UnsupportedOperationException {
        if (ledgerState != LEDGER_CLOSED) {
            throw new IllegalStateException("the ledger is not closed");
        }
        if (!isEntry(e) || e > ledgerLast) {
            throw new IndexOutOfBoundsException("no such entry");
        }
        int s = firstUpWith(e);
        if (s == NONE) {
            throw new UnsupportedOperationException("no store that is up has it");
        }
        return stores[s].values[e];
    }

    private static int nearest(int x, int low, int high) {
        return Math.max(low, Math.min(high, x));
    }

    private static boolean isEntry(int e) {
        return e >= 0 && e < ENTRY_LIMIT;
    }

    private static boolean isRecoverer(int r) {
        return r >= 1 && r <= RECOVERER_COUNT;
    }

    private boolean isStore(int s) {
        return s >= 0 && s < storeCount;
    }

    private int setMember(int e, int j) {
        return (e + j) % storeCount;
    }

    private int firstUpWith(int e) {
        for (int j = 0; j < setSize; j++) {
            int s = setMember(e, j);
            if (stores[s].up && stores[s].kept[e]) {
                return s;
            }
        }
        return NONE;
    }

    private void shutLedger(int last) {
        ledgerState = LEDGER_CLOSED;
        ledgerLast = last;
        ledgerVersion++;
    }

    private int sendWritersAdd(int e) {
        int value = theWriter.values[e];
        return sendToSet(ADD, WRITER_CLIENT, e, value, 0, theWriter.lac, theWriter.answered[e]);
    }

    /** Answers how many were sent; one that a full channel loses was sent, too. */
    private int sendToSet(int kind, int client, int e, int value, int term, int mark, int spared) {
        int sent = 0;
        for (int j = 0; j < setSize; j++) {
            int s = setMember(e, j);
            if ((spared & (1 << s)) == 0) {
                channel.send(kind, client, s, e, value, term, mark);
                sent++;
            }
        }
        return sent;
    }

    private int sendFences(Recoverer recoverer) {
        int sent = 0;
        for (int s = 0; s < storeCount; s++) {
            if ((recoverer.answered & (1 << s)) == 0) {
                channel.send(FENCE, recoverer.client, s, 0, 0, recoverer.term, 0);
                sent++;
            }
        }
        return sent;
    }

    /**
     * A step begins with nobody having answered, so its first sending and its repetitions are one
     * and the same.
     */
    private int sendStep(Recoverer x) {
        switch (x.state) {
            case FENCING:
                return sendFences(x);
            case READING:
                return sendToSet(READ, x.client, x.entry, 0, x.term, 0, x.answered);
            default:
                return sendToSet(ADD, x.client, x.entry, x.value, x.term, x.entry - 1, x.answered);
        }
    }

    private void reachStore(Message m) {
        Store store = stores[m.store];
        if (!store.up) {
            return;
        }
        if (m.kind == ADD) {
            reachStoreWithAdd(store, m);
            return;
        }
        store.fenced = true;
        if (m.kind == FENCE) {
            sendAnswer(m, FENCED, store.mark);
        } else if (store.kept[m.entry]) {
            sendAnswer(m, GOT, store.values[m.entry]);
        } else {
            sendAnswer(m, MISSING, 0);
        }
    }

    private void reachStoreWithAdd(Store store, Message m) {
        if (m.client == WRITER_CLIENT && store.fenced) {
            sendAnswer(m, REFUSED, 0);
            return;
        }
        store.keep(m.entry, m.value, m.mark);
        sendAnswer(m, ADDED, 0);
    }

    private void sendAnswer(Message m, int kind, int value) {
        channel.send(kind, m.client, m.store, m.entry, value, m.term, 0);
    }

    private void reachRecoverer(Message m) {
        Recoverer recoverer = recoverers[m.client - 1];
        if (m.term != recoverer.term) {
            return;
        }
        if (m.kind == FENCED && recoverer.state == FENCING) {
            hearFenced(recoverer, m);
        } else if (m.kind == GOT && recoverer.awaits(READING, m.entry)) {
            recoverer.beginWritingBack(m.value);
            sendStep(recoverer);
        } else if (m.kind == MISSING && recoverer.awaits(READING, m.entry)) {
            hearMissing(recoverer, m);
        } else if (m.kind == ADDED && recoverer.awaits(WRITING_BACK, m.entry)) {
            hearAdded(recoverer, m);
        }
    }

    private void hearFenced(Recoverer recoverer, Message m) {
        recoverer.noteAnswer(m.store);
        recoverer.highestMark = Math.max(recoverer.highestMark, m.value);
        if (isWriterFencedOut(recoverer.answered)) {
            readOn(recoverer, recoverer.highestMark + 1);
        }
    }

    private void hearMissing(Recoverer recoverer, Message m) {
        recoverer.noteAnswer(m.store);
        if (recoverer.countAnswered() >= setSize - quorum + 1) {
            finish(recoverer, recoverer.entry - 1);
        }
    }

    private void hearAdded(Recoverer recoverer, Message m) {
        recoverer.noteAnswer(m.store);
        if (recoverer.countAnswered() >= quorum) {
            readOn(recoverer, recoverer.entry + 1);
        }
    }

    /** The sets of later entries are the same as those of the first ones. */
    private boolean isWriterFencedOut(int answered) {
        for (int e = 0; e < storeCount; e++) {
            if (countSilent(e, answered) >= quorum) {
                return false;
            }
        }
        return true;
    }

    private int countSilent(int e, int answered) {
        int silent = 0;
        for (int j = 0; j < setSize; j++) {
            if ((answered & (1 << setMember(e, j))) == 0) {
                silent++;
            }
        }
        return silent;
    }

    private void readOn(Recoverer recoverer, int e) {
        if (e >= ENTRY_LIMIT) {
            finish(recoverer, e - 1);
            return;
        }
        recoverer.beginReading(e);
        sendStep(recoverer);
    }

    private void finish(Recoverer recoverer, int last) {
        if (ledgerState == LEDGER_RECOVERING && ledgerVersion == recoverer.term) {
            shutLedger(last);
        }
        recoverer.state = ledgerState == LEDGER_CLOSED ? DONE : IDLE;
    }

    /** What one store keeps. */
    private static final class Store {
        private final boolean[] kept = new boolean[ENTRY_LIMIT];
        private final int[] values = new int[ENTRY_LIMIT];
        private boolean up = true;
        private boolean fenced = false;
        private int mark = -1;
        private int keptCount = 0;

        private void keep(int e, int value, int newMark) {
            if (!kept[e]) {
                kept[e] = true;
                keptCount++;
            }
            values[e] = value;
            mark = Math.max(mark, newMark);
        }

        private int detail(int w) {
            switch (w) {
                case 0:
                    return up ? 1 : 0;
                case 1:
                    return fenced ? 1 : 0;
                case 2:
                    return mark;
                case 3:
                    return keptCount;
                default:
                    return NONE;
            }
        }
    }

    /** A message; value is also where FENCED carries the store's mark. */
    private static final class Message {
        private int kind = 0;
        private int client = 0;
        private int store = 0;
        private int entry = 0;
        private int value = 0;
        private int term = 0;
        private int mark = 0;

        private boolean isToStore() {
            return kind == ADD || kind == FENCE || kind == READ;
        }

        private int detail(int w) {
            switch (w) {
                case 0:
                    return kind;
                case 1:
                    return client;
                case 2:
                    return store;
                case 3:
                    return entry;
                case 4:
                    return value;
                case 5:
                    return term;
                case 6:
                    return mark;
                default:
                    return NONE;
            }
        }
    }

    /** The messages on their way, in order, in rows 0 .. count - 1. */
    private static final class Channel {
        private final Message[] rows = new Message[CHANNEL_LIMIT];
        // The message taken out last stays whole here while answers to it go into the rows.
        private Message taken = new Message();
        private int count = 0;

        private Channel() {
            for (int i = 0; i < CHANNEL_LIMIT; i++) {
                rows[i] = new Message();
            }
        }

        private boolean holds(int i) {
            return i >= 0 && i < count;
        }

        private void send(
                int kind, int client, int store, int entry, int value, int term, int mark) {
            if (count >= CHANNEL_LIMIT) {
                return;
            }
            Message m = rows[count];
            m.kind = kind;
            m.client = client;
            m.store = store;
            m.entry = entry;
            m.value = value;
            m.term = term;
            m.mark = mark;
            count++;
        }

        private Message takeOut(int i) {
            Message free = taken;
            taken = rows[i];
            for (int k = i + 1; k < count; k++) {
                rows[k - 1] = rows[k];
            }
            count--;
            rows[count] = free;
            return taken;
        }
    }

    /** The writer. */
    private static final class Writer {
        private final int[] values = new int[ENTRY_LIMIT];
        private final int[] answered = new int[ENTRY_LIMIT];
        private int state = WRITER_WRITING;
        private int entryCount = 0;
        private int lac = -1;

        private boolean isFull() {
            return entryCount >= ENTRY_LIMIT || entryCount - (lac + 1) >= ABOVE_LAC_LIMIT;
        }

        private boolean knows(int e) {
            return e >= 0 && e < entryCount;
        }

        private int append(int value) {
            int e = entryCount;
            values[e] = value;
            entryCount++;
            return e;
        }

        private int countAnswers(int e) {
            return Integer.bitCount(answered[e]);
        }

        private void hear(Message m, int quorum) {
            if (state != WRITER_WRITING) {
                return;
            }
            if (m.kind == REFUSED) {
                state = WRITER_STOPPED;
            } else {
                answered[m.entry] |= 1 << m.store;
                advanceLac(quorum);
            }
        }

        private void advanceLac(int quorum) {
            for (int e = lac + 1; e < entryCount && countAnswers(e) >= quorum; e++) {
                lac = e;
            }
        }
    }

    /** A recoverer; value is that of the entry that it writes back. */
    private static final class Recoverer {
        private final int client;
        private int state = IDLE;
        private int term = 0;
        private int entry = 0;
        private int answered = 0;
        private int highestMark = -1;
        private int value = 0;

        private Recoverer(int client) {
            this.client = client;
        }

        private boolean isBusy() {
            return state != IDLE && state != DONE;
        }

        private boolean awaits(int wantedState, int e) {
            return state == wantedState && entry == e;
        }

        private void beginFencing(int newTerm) {
            term = newTerm;
            answered = 0;
            highestMark = -1;
            state = FENCING;
        }

        private void beginReading(int e) {
            entry = e;
            answered = 0;
            state = READING;
        }

        private void beginWritingBack(int foundValue) {
            value = foundValue;
            answered = 0;
            state = WRITING_BACK;
        }

        private void noteAnswer(int s) {
            answered |= 1 << s;
        }

        private int countAnswered() {
            return Integer.bitCount(answered);
        }

        private int detail(int w) {
            switch (w) {
                case 0:
                    return state;
                case 1:
                    return term;
                case 2:
                    return entry;
                case 3:
                    return countAnswered();
                case 4:
                    return highestMark;
                default:
                    return NONE;
            }
        }
    }
}
