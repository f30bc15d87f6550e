import java.util.NoSuchElementException;

/** A store of keys parted into ranges; ../shared/DOC.md tells what each call promises. */
public final class Rangehold {
    public static final int NONE = -1;
    public static final long ABSENT = Long.MIN_VALUE;
    public static final int READ = 0, WRITE = 1, END = 2, PUSH = 3, RESOLVE = 4, SPLIT = 5, FREEZE = 6, JOIN = 7, REFUSE = 8, THAW = 9, ADD = 10, DROP = 11, NOTHING = 12, SCAN = 13, CLOSE = 14, SWEEP = 15, LOOK = 16;
    public static final int OK = 0, WAITS = 1, LATE = 2, WRONG = 3, FROZEN = 4, NOT_LEADER = 5, NO_COPY = 6, LATER = 7, FULL = 8, REFUSED = 9, JOINED = 10, GONE = 11, UNKNOWN = 12;
    public static final int OPEN = 0, DOOMED = 1, ENDING = 2, COMMITTED = 3, ABORTED = 4, LOST = 5;
    public static final int FOLLOWER = 0, CANDIDATE = 1, LEADER = 2;
    public static final int RUNS = 0, DONE = 1, FELL = 2, GIVEN_UP = 3;
    public static final int KEY = 1, ZERO = 2, TIRED = 3, FAILED = 4, MANY = 5;
    public static final int CALL = 0, VOTE = 1, ENTRIES = 2, BASE = 3, GOT = 4, REQUEST = 5, ANSWER = 6;

    private static final int NODES = 5, KEYS = 32, RANGES = 8, TRANSACTIONS = 80, ASKS = 500, PROGRAMS = 6, JOBS = 24;
    private static final int MESSAGES = 150, BYTES = 1200, LAST_TIME = 5000, SETTLED_MESSAGES = 400;

    /** Entries: with so many a log is full, with more carried out ones it is compacted, so many are in a message. */
    private static final int FULL_LOG = 40, CARRIED_LOG = 24, SENT_ENTRIES = 4, FIRST_LOG = 48;

    /** Ticks: a LEADER sends at each third, a copy stands when it was out of touch for longer (by its node), a keeper's. */
    private static final int SENDS_EVERY = 3, TOUCH = 8, TOUCH_BY_NODE = 3, KEPT_EVERY = 10, KEPT_SILENT = 40, KEPT_OPEN = 13;
    private static final int KEPT_HELD = 12, KEPT_MEMBERS = 3;

    /** Of moments: so many are in a k, so many k in a tick; clocks differ by so many ticks, a PUSH wins by so many k. */
    private static final int MOMENTS = 8, TICK_K = 100, MAX_OFFSET = 3, PUSHED_K = 1000;

    /** A set of asks takes so many longs; what a LOST ask has as its answer; far above what any loop needs. */
    private static final int ASK_WORDS = 8, NEVER = LOST - 10, FAR = 1000000;

    /** What is left to do for a copy, behind what a message or a tick did to it. */
    private static final int IDLE = 0, CARRIES = 1, SENDS = 2, ACCEPTED = 3, APPENDED = 4;

    /** What a job does next when it goes on. */
    private static final int TO_BEGIN = 0, TO_CALCULATE = 1, TO_OPERATE = 2, TO_PUSH = 3, TO_RESOLVE = 4, TO_END = 5, TO_CLEAN = 6, TO_TELL = 7;
    private static final int WORKS = 0, PUSHES = 1, CLEANS = 2, TELLS = 3;
    private static final int MAX_BEGUN = 8, SENT_AGAIN_AFTER = 6;

    /** Why the transaction of a job is ended. */
    private static final int FOR_GOOD = 0, FOR_FALL = 1, FOR_ANEW = 2;

    private static final int DO_STEP = 0, DO_PUSH = 1, DO_LOAD = 2, DO_STORE = 3, DO_ADD = 4, DO_SUB = 5, DO_MUL = 6, DO_DIV = 7, DO_REM = 8, DO_LESS = 9, DO_MORE = 10, DO_SAME = 11;
    private static final int DO_NEG = 12, DO_JUMP = 13, DO_UNLESS = 14, DO_GET = 15, DO_HAS = 16, DO_PUT = 17, DO_DEL = 18, DO_SCAN = 19, DO_NEXT = 20, DO_GIVE = 21, DO_FAIL = 22, DO_END = 23;
    private static final int MAX_STEPS = 100, PILE = 128, MAX_DEEP = 12, MAX_NUMBER = 999999;

    private final Node[] nodes = new Node[NODES];
    private final Range[] ranges = new Range[RANGES];
    private final Transaction[] transactions = new Transaction[TRANSACTIONS];
    private final Ask[] asks = new Ask[ASKS];
    private final Job[] jobs = new Job[JOBS];
    private final Net net = new Net();
    private final Text text = new Text();
    private final Machine trialMachine = new Machine(), checkMachine = new Machine();
    private final long[] trialKeys = new long[KEYS], checkKeys = new long[KEYS];
    private int nodeCount, rangeNumbers, transactionCount, askCount, jobCount, time;

    /** Counts begins and tells, so that it is known which of them came first. */
    private int moves;

    public Rangehold() {
        for (int key = 0; key < KEYS; key++) {
            trialKeys[key] = ABSENT;
            checkKeys[key] = ABSENT;
        }
    }

    // ---- nodes

    public int addNode(int offset) throws IllegalArgumentException, IllegalStateException {
        if (offset < -MAX_OFFSET || offset > MAX_OFFSET) {
            throw new IllegalArgumentException();
        }
        if (nodeCount >= NODES) {
            throw new IllegalStateException();
        }
        nodes[nodeCount] = new Node(nodeCount, offset);
        nodeCount++;
        return nodeCount - 1;
    }

    public int setClock(int node, int offset) throws IndexOutOfBoundsException, IllegalArgumentException {
        Node it = nodeOf(node);
        if (offset < -MAX_OFFSET || offset > MAX_OFFSET) {
            throw new IllegalArgumentException();
        }
        int before = it.offset;
        it.offset = offset;
        return before;
    }

    public int found(int members) throws IllegalArgumentException, IllegalStateException {
        if (members <= 0 || members >= 1 << nodeCount) {
            throw new IllegalArgumentException();
        }
        long group = 0;
        for (int node = 0; node < nodeCount; node++) {
            if ((members >> node & 1) == 1) {
                if (!nodes[node].isUp) {
                    throw new IllegalArgumentException();
                }
                group = Copy.with(group, nodes[node].member());
            }
        }
        if (ranges[0] != null) {
            throw new IllegalStateException();
        }
        State all = new State(transactions);
        all.behind = KEYS;
        ranges[0] = new Range(all, group);
        rangeNumbers = 1;
        for (int node = 0; node < nodeCount; node++) {
            makeFirstCopy(nodes[node], 0);
        }
        return Copy.sizeOf(group);
    }

    public int stop(int node, boolean losesDisk) throws IndexOutOfBoundsException, IllegalStateException {
        Node it = nodeOf(node);
        if (!it.isUp) {
            throw new IllegalStateException();
        }
        it.isUp = false;
        for (int range = 0; range < RANGES; range++) {
            Copy copy = it.copyOf(range);
            if (copy != null) {
                copy.forget();
                copy.isThere = !losesDisk;
            }
        }
        if (losesDisk) {
            it.disk++;
        }
        for (int i = 0; i < transactionCount; i++) {
            if (transactions[i].home == it && transactions[i].state <= ENDING) {
                transactions[i].state = LOST;
            }
        }
        for (int i = 0; i < jobCount; i++) {
            if (jobs[i].home == it && jobs[i].state == RUNS) {
                jobs[i].state = GIVEN_UP;
            }
        }
        return loseAsks(it);
    }

    private int loseAsks(Node home) {
        int many = 0;
        for (int i = 0; i < askCount; i++) {
            if (asks[i].home == home && asks[i].answer == NONE) {
                asks[i].answer = NEVER;
                many++;
            }
        }
        return many;
    }

    public int start(int node) throws IndexOutOfBoundsException, IllegalStateException {
        Node it = nodeOf(node);
        if (it.isUp) {
            throw new IllegalStateException();
        }
        it.isUp = true;
        for (int range = 0; range < RANGES; range++) {
            Copy copy = it.copyOf(range);
            if (copy != null) {
                copy.touch = time;
            }
        }
        return it.copyCount();
    }

    public int compact(int node, int range) throws IndexOutOfBoundsException, IllegalStateException {
        Node it = nodeOf(node);
        checkRange(range);
        Copy copy = it.copyOf(range);
        if (!it.isUp || copy == null) {
            throw new IllegalStateException();
        }
        return copy.layBase();
    }

    public int nodeAt(int node, int what) throws IndexOutOfBoundsException, IllegalArgumentException {
        Node it = nodeOf(node);
        switch (what) {
            case 0: return it.isUp ? 1 : 0;
            case 1: return time + it.offset;
            case 2: return it.disk;
            case 3: return it.copyCount();
            case 4: return it.lastK;
            default: throw new IllegalArgumentException();
        }
    }

    private Node nodeOf(int node) {
        checkNode(node);
        return nodes[node];
    }

    private void checkNode(int node) {
        if (node < 0 || node >= nodeCount) {
            throw new IndexOutOfBoundsException();
        }
    }

    private boolean isRange(int range) {
        return range >= 0 && range < RANGES && ranges[range] != null;
    }

    private void checkRange(int range) {
        if (!isRange(range)) {
            throw new IndexOutOfBoundsException();
        }
    }

    private static boolean isKey(int key) {
        return key >= 0 && key < KEYS;
    }

    // ---- transactions

    public int begin(int node) throws IndexOutOfBoundsException, IllegalStateException {
        Node it = nodeOf(node);
        if (!it.isUp || transactionCount >= TRANSACTIONS) {
            throw new IllegalStateException();
        }
        return newTransaction(it, null).number;
    }

    private Transaction newTransaction(Node node, Job job) {
        node.lastK = node.nextK(time);
        moves++;
        Transaction it = new Transaction(transactionCount, node, (long) MOMENTS * node.lastK + node.number, job, moves);
        transactions[transactionCount] = it;
        transactionCount++;
        return it;
    }

    public int read(int transaction, int key, int range, int to) throws IndexOutOfBoundsException, IllegalArgumentException, IllegalStateException {
        Transaction it = transactionOf(transaction);
        checkNode(to);
        checkRange(range);
        if (!isKey(key)) {
            throw new IllegalArgumentException();
        }
        checkOperates(it);
        return operate(it, READ, key, 0, 0, range, to).number;
    }

    public int write(int transaction, int key, long value, int range, int to) throws IndexOutOfBoundsException, IllegalArgumentException, IllegalStateException {
        Transaction it = transactionOf(transaction);
        checkNode(to);
        checkRange(range);
        if (!isKey(key) || value != ABSENT && value != (int) value) {
            throw new IllegalArgumentException();
        }
        checkOperates(it);
        return operate(it, WRITE, key, value, 0, range, to).number;
    }

    public int scan(int transaction, int first, int behind, int range, int to) throws IndexOutOfBoundsException, IllegalArgumentException, IllegalStateException {
        Transaction it = transactionOf(transaction);
        checkNode(to);
        checkRange(range);
        if (!isKey(first) || behind <= first || behind > KEYS) {
            throw new IllegalArgumentException();
        }
        checkOperates(it);
        return operate(it, SCAN, first, 0, behind, range, to).number;
    }

    private Transaction transactionOf(int transaction) {
        if (transaction < 0 || transaction >= transactionCount) {
            throw new IndexOutOfBoundsException();
        }
        return transactions[transaction];
    }

    private void checkOperates(Transaction it) {
        if (it.state != OPEN || it.job != null || it.isAsking() || askCount >= ASKS) {
            throw new IllegalStateException();
        }
    }

    /** Asks an operation of a transaction; the detail is the key behind the last one of a SCAN. */
    private Ask operate(Transaction it, int command, int key, long value, int detail, int range, int to) {
        Ask ask = newAsk(command, it.home, range);
        it.operations++;
        it.ask = ask;
        ask.transaction = it;
        ask.operation = it.operations;
        ask.key = key;
        ask.value = value;
        ask.detail = detail;
        ask.moment = it.moment;
        if (command == WRITE) {
            if (it.anchor == NONE) {
                it.anchor = key;
            }
            ask.write = it.lastWrite;
            it.lastWrite = ask;
        }
        if (command == READ) {
            ask.write = it.wrote[key];
        }
        post(ask, to);
        return ask;
    }

    public int scanAt(int ask, int index, int what) throws IndexOutOfBoundsException, IllegalArgumentException, NoSuchElementException {
        Ask it = askOf(ask);
        if (what < 0 || what > 3) {
            throw new IllegalArgumentException();
        }
        if (it.command != SCAN || it.answer != OK || it.found == null) {
            throw new NoSuchElementException();
        }
        if (what == 0) {
            return (int) it.answerValue;
        }
        if (what == 1) {
            return it.answerKey;
        }
        int key = it.foundKey(index);
        if (key == NONE) {
            throw new NoSuchElementException();
        }
        return what == 2 ? key : (int) it.found[key];
    }

    public int end(int transaction, boolean isCommit, int range, int to) throws IndexOutOfBoundsException, IllegalStateException {
        Transaction it = transactionOf(transaction);
        if (it.anchor != NONE) {
            checkNode(to);
            checkRange(range);
        }
        if (it.job != null || it.isAsking() || !it.canEnd(isCommit)) {
            throw new IllegalStateException();
        }
        if (it.anchor == NONE) {
            it.state = isCommit ? COMMITTED : ABORTED;
            return NONE;
        }
        if (askCount >= ASKS) {
            throw new IllegalStateException();
        }
        return askEnd(it, isCommit, range, to).number;
    }

    private Ask askEnd(Transaction it, boolean isCommit, int range, int to) {
        Ask ask = newAsk(END, it.home, range);
        ask.transaction = it;
        it.ask = ask;
        it.state = ENDING;
        it.isCommit = isCommit;
        post(ask, to);
        return ask;
    }

    public boolean tell(int transaction) throws IndexOutOfBoundsException {
        return tellIfDue(transactionOf(transaction));
    }

    private boolean tellIfDue(Transaction it) {
        if (it.toldAt == 0 && it.home.isUp) {
            boolean isOver = (long) TICK_K * (time + it.home.offset - MAX_OFFSET) > it.moment / MOMENTS;
            if (it.state == ABORTED || it.state == COMMITTED && isOver) {
                moves++;
                it.toldAt = moves;
            }
        }
        return it.toldAt != 0;
    }

    public long transactionAt(int transaction, int what) throws IndexOutOfBoundsException, IllegalArgumentException {
        Transaction it = transactionOf(transaction);
        switch (what) {
            case 0: return it.state;
            case 1: return it.home.number;
            case 2: return it.moment;
            case 3: return it.anchor;
            case 4: return it.done;
            case 5: return it.isCommitted() ? 1 : 0;
            case 6: return it.toldAt != 0 ? 1 : 0;
            case 7: return numberIfOpen(it.ask);
            default: throw new IllegalArgumentException();
        }
    }

    /** The number of an ask without an answer; one that is LOST is none, as it cannot be sent again. */
    private static int numberIfOpen(Ask ask) {
        return ask != null && ask.answer == NONE ? ask.number : NONE;
    }

    public long operationAt(int transaction, int operation, int what) throws IndexOutOfBoundsException, IllegalArgumentException {
        Transaction it = transactionOf(transaction);
        Ask ask = operation < 0 || operation >= it.done ? null : doneOf(it, operation);
        if (ask == null) {
            throw new IndexOutOfBoundsException();
        }
        switch (what) {
            case 0: return ask.command;
            case 1: return ask.key;
            case 2: return ask.command == WRITE ? ask.value : ask.answerValue;
            case 3: return ask.operation;
            default: throw new IllegalArgumentException();
        }
    }

    /** The operation of a transaction that was done with this index: one waits for the other, so asks are in their order. */
    private Ask doneOf(Transaction it, int index) {
        int left = index;
        for (int i = 0; i < askCount; i++) {
            if (asks[i].transaction == it && asks[i].isDoneOperation()) {
                if (left == 0) {
                    return asks[i];
                }
                left--;
            }
        }
        return null;
    }

    // ---- other asks

    public int readAsOf(int node, long moment, int key, int range, int to) throws IndexOutOfBoundsException, IllegalArgumentException, IllegalStateException {
        Node home = askerOf(node, range, to);
        if (!isMoment(moment) || !isKey(key)) {
            throw new IllegalArgumentException();
        }
        checkCanAsk(home);
        Ask ask = newAsk(READ, home, range);
        ask.moment = moment;
        ask.key = key;
        return post(ask, to);
    }

    public int asOf(int node, int kind, long moment, int key, int range, int to) throws IndexOutOfBoundsException, IllegalArgumentException, IllegalStateException {
        Node home = askerOf(node, range, to);
        boolean isKind = kind == LOOK || kind == CLOSE || kind == SWEEP;
        if (!isKind || !isMoment(moment) || kind == LOOK && !isKey(key)) {
            throw new IllegalArgumentException();
        }
        checkCanAsk(home);
        return askAsOf(home, kind, moment, kind == LOOK ? key : NONE, range, to).number;
    }

    private Ask askAsOf(Node home, int kind, long moment, int key, int range, int to) {
        Ask ask = newAsk(kind, home, range);
        ask.moment = moment;
        ask.key = key;
        post(ask, to);
        return ask;
    }

    private boolean isMoment(long moment) {
        return moment >= 0 && moment <= (long) MOMENTS * TICK_K * (time + 10);
    }

    /** The node that asks; this, the range and the node to which it is sent must exist. */
    private Node askerOf(int node, int range, int to) {
        checkRange(range);
        checkNode(to);
        return nodeOf(node);
    }

    private void checkCanAsk(Node home) {
        if (!home.isUp || askCount >= ASKS) {
            throw new IllegalStateException();
        }
    }

    public int push(int node, int transaction, int range, int to) throws IndexOutOfBoundsException, IllegalStateException {
        Node home = askerOf(node, range, to);
        Transaction it = transactionOf(transaction);
        checkCanAsk(home);
        if (it.anchor == NONE) {
            throw new IllegalStateException();
        }
        return askPush(home, it, range, to).number;
    }

    private Ask askPush(Node home, Transaction it, int range, int to) {
        Ask ask = newAsk(PUSH, home, range);
        ask.transaction = it;
        ask.moment = home.nextK(time);
        post(ask, to);
        return ask;
    }

    public int resolve(int node, int transaction, int key, int range, int to) throws IndexOutOfBoundsException, IllegalArgumentException, IllegalStateException {
        Node home = askerOf(node, range, to);
        Transaction it = transactionOf(transaction);
        if (!isKey(key)) {
            throw new IllegalArgumentException();
        }
        checkCanAsk(home);
        if ((it.knownAt >> node & 1) == 0) {
            throw new IllegalStateException();
        }
        return askResolve(home, it, key, range, to).number;
    }

    private Ask askResolve(Node home, Transaction it, int key, int range, int to) {
        Ask ask = newAsk(RESOLVE, home, range);
        ask.transaction = it;
        ask.key = key;
        ask.write = it.outcome == COMMITTED ? it.writeOf(key) : null;
        post(ask, to);
        return ask;
    }

    public int split(int node, int key, int range, int to) throws IndexOutOfBoundsException, IllegalArgumentException, IllegalStateException {
        Node home = askerOf(node, range, to);
        if (key < 1 || key >= KEYS) {
            throw new IllegalArgumentException();
        }
        checkCanAsk(home);
        if (rangeNumbers >= RANGES) {
            throw new IllegalStateException();
        }
        return askSplit(home, key, range, to).number;
    }

    private Ask askSplit(Node home, int key, int range, int to) {
        Ask ask = newAsk(SPLIT, home, range);
        ask.key = key;
        ask.detail = rangeNumbers;
        rangeNumbers++;
        post(ask, to);
        return ask;
    }

    public int freeze(int node, int into, int range, int to) throws IndexOutOfBoundsException, IllegalStateException {
        Node home = askerOf(node, range, to);
        checkRange(into);
        checkCanAsk(home);
        if (into == range) {
            throw new IllegalStateException();
        }
        Ask ask = newAsk(FREEZE, home, range);
        ask.detail = into;
        return post(ask, to);
    }

    public int settleJoin(int node, int kind, int freeze, int to) throws IndexOutOfBoundsException, IllegalArgumentException, IllegalStateException {
        Node home = nodeOf(node);
        checkNode(to);
        Ask frozen = askOf(freeze);
        if (kind < JOIN || kind > THAW || frozen.command != FREEZE) {
            throw new IllegalArgumentException();
        }
        checkCanAsk(home);
        if (kind == JOIN && frozen.answer != OK || kind == THAW && !isRefused(frozen)) {
            throw new IllegalStateException();
        }
        Ask ask = newAsk(kind, home, kind == THAW ? frozen.range : frozen.detail);
        ask.freeze = frozen;
        return post(ask, to);
    }

    private boolean isRefused(Ask freeze) {
        for (int i = 0; i < askCount; i++) {
            if (asks[i].command == REFUSE && asks[i].freeze == freeze && asks[i].answer == OK) {
                return true;
            }
        }
        return false;
    }

    public int change(int node, boolean isAdd, int member, int range, int to) throws IndexOutOfBoundsException, IllegalStateException {
        Node home = askerOf(node, range, to);
        Node changed = nodeOf(member);
        checkCanAsk(home);
        return askChange(home, isAdd ? ADD : DROP, changed, range, to).number;
    }

    private Ask askChange(Node home, int command, Node changed, int range, int to) {
        Ask ask = newAsk(command, home, range);
        ask.detail = changed.member();
        post(ask, to);
        return ask;
    }

    public void again(int ask, int to) throws IndexOutOfBoundsException, IllegalStateException {
        Ask it = askOf(ask);
        checkNode(to);
        if (it.answer != NONE) {
            throw new IllegalStateException();
        }
        post(it, to);
    }

    public long askAt(int ask, int what) throws IndexOutOfBoundsException, IllegalArgumentException {
        Ask it = askOf(ask);
        switch (what) {
            case 0: return it.command;
            case 1: return it.home.number;
            case 2: return it.range;
            case 3: return it.answer;
            case 4: return it.answerValue;
            case 5: return it.transaction != null ? it.transaction.number : NONE;
            case 6: return it.key;
            default: throw new IllegalArgumentException();
        }
    }

    private Ask askOf(int ask) {
        if (ask < 0 || ask >= askCount) {
            throw new IndexOutOfBoundsException();
        }
        return asks[ask];
    }

    /** Makes an ask; its callers have looked whether there are less than 500. */
    private Ask newAsk(int command, Node home, int range) {
        Ask ask = new Ask(askCount, command, home, range);
        if (askCount < ASKS) {
            asks[askCount] = ask;
            askCount++;
        }
        return ask;
    }

    private int post(Ask ask, int to) {
        Message it = net.send(REQUEST, ask.home.number, to, ask.range);
        it.ask = ask;
        return ask.number;
    }

    // ---- copies and ranges

    public int copyAt(int node, int range, int what) throws IndexOutOfBoundsException, IllegalArgumentException {
        Node it = nodeOf(node);
        Copy copy = copyOf(it, range);
        switch (what) {
            case 0: return copy.term;
            case 1: return it.isUp ? copy.role : NONE;
            case 2: return copy.baseIndex;
            case 3: return copy.lastIndex();
            case 4: return copy.mark;
            case 5: return copy.voted == NONE ? NONE : copy.voted & 7;
            case 6: return Copy.nodesOf(copy.members());
            case 7: return copy.entries;
            default: throw new IllegalArgumentException();
        }
    }

    private static Copy copyOf(Node node, int range) {
        Copy copy = node.copyOf(range);
        if (copy == null) {
            throw new IndexOutOfBoundsException();
        }
        return copy;
    }

    public int entryAt(int node, int range, int index, int what) throws IndexOutOfBoundsException, IllegalArgumentException {
        Copy copy = copyOf(nodeOf(node), range);
        if (index <= copy.baseIndex || index > copy.lastIndex()) {
            throw new IndexOutOfBoundsException();
        }
        Ask ask = copy.askAtIndex(index);
        switch (what) {
            case 0: return copy.termAt(index);
            case 1: return ask == null ? NOTHING : ask.command;
            case 2: return ask == null ? NONE : ask.number;
            default: throw new IllegalArgumentException();
        }
    }

    public long rangeAt(int range, int what) throws IndexOutOfBoundsException, IllegalArgumentException {
        checkRange(range);
        Range it = ranges[range];
        switch (what) {
            case 0: return it.state.first;
            case 1: return it.state.behind;
            case 2: return it.state.frozenBy != 0 ? 1 : 0;
            case 3: return it.agreed;
            case 4: return it.state.versionCount();
            case 5: return it.state.intentCount();
            case 6: return it.state.recordCount();
            case 7: return Copy.nodesOf(it.members);
            case 8: return it.state.closed;
            case 9: return it.state.floor;
            default: throw new IllegalArgumentException();
        }
    }

    public long versionAt(int range, int key, int version, boolean isValue) throws IndexOutOfBoundsException {
        checkRange(range);
        State state = ranges[range].state;
        if (!state.has(key) || version < 0) {
            throw new IndexOutOfBoundsException();
        }
        Transaction writer = state.nextWriter(1 << key, -1);
        for (int i = 0; i < version && writer != null; i++) {
            writer = state.nextWriter(1 << key, writer.moment);
        }
        if (writer == null) {
            throw new IndexOutOfBoundsException();
        }
        return isValue ? writer.valueOf(key) : writer.moment;
    }

    public long intentAt(int range, int key, int what) throws IndexOutOfBoundsException, IllegalArgumentException {
        checkRange(range);
        State state = ranges[range].state;
        if (!state.has(key)) {
            throw new IndexOutOfBoundsException();
        }
        if (what < 0 || what > 3) {
            throw new IllegalArgumentException();
        }
        if (what == 3) {
            return state.read[key];
        }
        Transaction holder = state.intents[key];
        if (holder == null) {
            return NONE;
        }
        return what == 0 ? holder.number : what == 1 ? state.intentValues(key) : holder.anchor;
    }

    public long resolved(int node, int range) throws IndexOutOfBoundsException, IllegalStateException {
        Node it = nodeOf(node);
        Copy copy = copyOf(it, range);
        if (!it.isUp) {
            throw new IllegalStateException();
        }
        return copy.state.resolvedMoment();
    }

    public long feedAt(int node, int range, long since, int index, int what) throws IndexOutOfBoundsException, IllegalArgumentException, IllegalStateException, NoSuchElementException {
        Node it = nodeOf(node);
        State state = copyOf(it, range).state;
        if (what < 0 || what > 3) {
            throw new IllegalArgumentException();
        }
        if (!it.isUp || since < state.floor) {
            throw new IllegalStateException();
        }
        long until = state.resolvedMoment();
        if (what == 0) {
            return state.versionsBetween(since, until);
        }
        if (index < 0 || index >= state.versionsBetween(since, until)) {
            throw new NoSuchElementException();
        }
        int left = index;
        Transaction writer = state.nextWriter(-1, since);
        for (int i = 0; i < TRANSACTIONS && writer != null && left >= Integer.bitCount(state.versions[writer.number]); i++) {
            left -= Integer.bitCount(state.versions[writer.number]);
            writer = state.nextWriter(-1, writer.moment);
        }
        if (writer == null) {
            throw new NoSuchElementException();
        }
        if (what == 1) {
            return writer.moment;
        }
        int key = keyInBits(state.versions[writer.number], left);
        return what == 2 ? key : writer.valueOf(key);
    }

    /** The key that has this index among those in a row of bits. */
    private static int keyInBits(int bits, int index) {
        int left = index;
        for (int key = 0; key < KEYS; key++) {
            if ((bits >>> key & 1) == 1) {
                if (left == 0) {
                    return key;
                }
                left--;
            }
        }
        return NONE;
    }

    public int ownerOf(int key) throws IllegalArgumentException {
        if (!isKey(key)) {
            throw new IllegalArgumentException();
        }
        return ownerBehind(key, NONE);
    }

    /** The least range above the told one that owns a key. */
    private int ownerBehind(int key, int range) {
        for (int i = range + 1; i < RANGES; i++) {
            if (i >= 0 && ranges[i] != null && ranges[i].state.frozenBy == 0 && ranges[i].state.has(key)) {
                return i;
            }
        }
        return NONE;
    }

    public long valueAt(int key, long moment) throws IllegalArgumentException {
        if (!isKey(key)) {
            throw new IllegalArgumentException();
        }
        return committedValue(key, moment);
    }

    private long committedValue(int key, long moment) {
        Transaction newest = null;
        for (int i = 0; i < transactionCount; i++) {
            Transaction it = transactions[i];
            boolean wrote = it.isAgreed && it.wrote[key] != null && it.moment <= moment;
            if (wrote && (newest == null || it.moment > newest.moment)) {
                newest = it;
            }
        }
        return newest == null ? ABSENT : newest.valueOf(key);
    }

    public long heldAt(int key) throws IllegalArgumentException {
        if (!isKey(key)) {
            throw new IllegalArgumentException();
        }
        return heldBy(ownerBehind(key, NONE), key);
    }

    private long heldBy(int owner, int key) {
        if (owner == NONE) {
            return ABSENT;
        }
        State state = ranges[owner].state;
        Transaction newest = state.newestWriter(key, Long.MAX_VALUE);
        Transaction holder = state.intents[key];
        boolean isHeld = holder != null && holder.isAgreed && state.holdsValue(key, holder.writeOf(key));
        if (isHeld && (newest == null || holder.moment > newest.moment)) {
            newest = holder;
        }
        return newest == null ? ABSENT : newest.valueOf(key);
    }

    // ---- programs and jobs

    public int type(long a, long b, long c, long d, long e, long f) throws IllegalStateException {
        int many = Text.bytesIn(a) + Text.bytesIn(b) + Text.bytesIn(c) + Text.bytesIn(d) + Text.bytesIn(e) + Text.bytesIn(f);
        if (text.length + many > BYTES) {
            throw new IllegalStateException();
        }
        text.addBytes(a);
        text.addBytes(b);
        text.addBytes(c);
        text.addBytes(d);
        text.addBytes(e);
        text.addBytes(f);
        return text.length;
    }

    public int piece(int which) throws IllegalArgumentException, IllegalStateException {
        if (which < 0 || which > 5) {
            throw new IllegalArgumentException();
        }
        String words = pieceOf(which);
        if (text.length + words.length() + 1 > BYTES) {
            throw new IllegalStateException();
        }
        for (int i = 0; i < words.length(); i++) {
            text.addByte(words.charAt(i));
        }
        text.addByte(10);
        return text.length;
    }

    private static String pieceOf(int which) {
        switch (which) {
            case 0: return "tx move { get x a; get y b; if x > 0 { put a, x - 1; put b, y + 1; } give x; }";
            case 1: return "tx sum { s = 0; scan k v a, b { s = s + v; } put 31, s; give s; }";
            case 2: return "tx fill { while a < b { put a, a * a; a = a + 1; } give a; }";
            case 3: return "tx swap { has p a; has q b; get x a; get y b; del a; del b; if q { put a, y; } if p { put b, x; } give p + q; }";
            case 4: return "tx count { get n a; put a, n + 1; if n > b { fail; } give n; }";
            default: return "tx tidy { n = 0; scan k v a, b { if v % 2 = 1 { del k; n = n + 1; } else { put k, v / 2; } } give n; }";
        }
    }

    public int clearText() {
        int before = text.length;
        text.length = 0;
        return before;
    }

    public int errorKind() {
        text.parse();
        return text.errorKind;
    }

    public int errorPlace() {
        text.parse();
        return text.errorKind == 0 ? NONE : text.errorPlace;
    }

    public int load() throws IllegalStateException {
        text.parse();
        if (text.errorKind != 0) {
            throw new IllegalStateException();
        }
        text.keepPrograms();
        text.length = 0;
        return text.programCount;
    }

    public int codeLength(int program) throws IndexOutOfBoundsException {
        return codeOf(program).length / 4;
    }

    private int[] codeOf(int program) {
        int[] code = program < 0 || program >= text.programCount ? null : text.codes[program];
        if (code == null) {
            throw new IndexOutOfBoundsException();
        }
        return code;
    }

    public int codeAt(int program, int instruction, int what) throws IndexOutOfBoundsException, IllegalArgumentException {
        int[] code = codeOf(program);
        if (instruction < 0 || instruction >= code.length / 4) {
            throw new IndexOutOfBoundsException();
        }
        if (what < 0 || what > 3) {
            throw new IllegalArgumentException();
        }
        return code[4 * instruction + what];
    }

    public int trial(int program, int a, int b) throws IndexOutOfBoundsException {
        int[] code = codeOf(program);
        takeCommitted(trialKeys, Long.MAX_VALUE);
        trialMachine.prepare(code, a, b);
        int fell = carryOnMap(trialMachine, trialKeys);
        if (fell != 0) {
            takeCommitted(trialKeys, Long.MAX_VALUE);
        }
        return fell;
    }

    private void takeCommitted(long[] map, long moment) {
        for (int key = 0; key < map.length; key++) {
            map[key] = committedValue(key, moment);
        }
    }

    /** Carries a program out on a map; returns 0, or how it fell. */
    private static int carryOnMap(Machine machine, long[] map) {
        for (int turn = 0; turn < FAR; turn++) {
            int need = machine.advance();
            if (need == DO_END || need == DO_FAIL) {
                return machine.fell;
            }
            int key = machine.key;
            if (need == DO_SCAN) {
                for (int i = key; i < machine.behind && i < map.length; i++) {
                    machine.found[i] = map[i];
                }
                machine.takeCovered(machine.behind);
            } else if (key >= 0 && key < map.length) {
                if (need == DO_PUT || need == DO_DEL) {
                    map[key] = machine.value;
                }
                machine.takeAnswer(map[key]);
            }
        }
        return TIRED;
    }

    public long trialAt(int what) throws IllegalArgumentException {
        if (what < 0 || what > KEYS + 1) {
            throw new IllegalArgumentException();
        }
        if (what < 2) {
            return what == 0 ? trialMachine.given : trialMachine.steps;
        }
        return trialKeys[what - 2];
    }

    public int run(int node, int program, int a, int b) throws IndexOutOfBoundsException, IllegalStateException {
        Node it = nodeOf(node);
        int[] code = codeOf(program);
        if (!it.isUp || ranges[0] == null || jobCount >= JOBS) {
            throw new IllegalStateException();
        }
        Job job = new Job(it, program, a, b);
        job.code = code;
        jobs[jobCount] = job;
        jobCount++;
        goOn(job);
        return jobCount - 1;
    }

    public int jobAt(int job, int what) throws IndexOutOfBoundsException, IllegalArgumentException {
        if (job < 0 || job >= jobCount) {
            throw new IndexOutOfBoundsException();
        }
        Job it = jobs[job];
        switch (what) {
            case 0: return it.state;
            case 1: return it.home.number;
            case 2: return it.program;
            case 3: return it.begun;
            case 4: return it.state == DONE ? it.machine.given : 0;
            case 5: return it.fell;
            case 6: return it.transaction == null ? NONE : it.transaction.number;
            case 7: return it.phase;
            case 8: return numberIfOpen(it.ask);
            default: throw new IllegalArgumentException();
        }
    }

    /** Lets a job do what it can do now, up to its next ask or rest. */
    private void goOn(Job job) {
        for (int turn = 0; turn < FAR && job.state == RUNS && !job.isWaiting; turn++) {
            switch (job.next) {
                case TO_BEGIN:
                    beginFor(job);
                    break;
                case TO_CALCULATE:
                    calculateFor(job);
                    break;
                case TO_TELL:
                    if (job.transaction != null && tellIfDue(job.transaction)) {
                        job.state = DONE;
                    } else {
                        job.isWaiting = true;
                    }
                    break;
                default:
                    askFor(job);
                    break;
            }
        }
    }

    private void beginFor(Job job) {
        if (transactionCount >= TRANSACTIONS) {
            job.fall(MANY);
            return;
        }
        job.transaction = newTransaction(job.home, job);
        job.machine.prepare(job.code, job.a, job.b);
        job.phase = WORKS;
        job.next = TO_CALCULATE;
    }

    private void calculateFor(Job job) {
        int need = job.machine.advance();
        if (need == DO_END) {
            job.endWith(FOR_GOOD);
        } else if (need == DO_FAIL) {
            job.endWith(FOR_FALL);
        } else {
            job.next = TO_OPERATE;
        }
    }

    private void askFor(Job job) {
        int key = job.keyInHand();
        Transaction it = job.transaction;
        if (askCount >= ASKS || it == null || !isKey(key)) {
            job.fall(MANY);
            return;
        }
        int range = job.ranges[key];
        int to = job.leaders[range];
        switch (job.next) {
            case TO_PUSH:
                job.ask = askPush(job.home, job.pushed, range, to);
                break;
            case TO_RESOLVE:
                job.ask = askResolve(job.home, job.pushed, key, range, to);
                break;
            case TO_END:
                job.ask = askEnd(it, job.ending == FOR_GOOD, range, to);
                break;
            case TO_CLEAN:
                job.ask = askResolve(job.home, it, key, range, to);
                break;
            default:
                job.ask = operate(it, job.machine.command(), key, job.machine.value, job.machine.behind, range, to);
                break;
        }
        job.ask.job = job;
        job.sentAt = time;
        job.isWaiting = true;
    }

    /** What a job makes of the answer to its ask; it goes on behind this. */
    private void heedAnswer(Job job, Ask ask) {
        job.isWaiting = false;
        int key = job.keyInHand();
        switch (ask.answer) {
            case OK:
                job.heedFine(ask);
                break;
            case WAITS:
                if (job.next == TO_OPERATE && ask.answerValue >= 0 && ask.answerValue < transactionCount) {
                    job.pushed = transactions[(int) ask.answerValue];
                    job.pushKey = ask.command == SCAN ? ask.answerKey : ask.key;
                    job.phase = PUSHES;
                    job.next = TO_PUSH;
                } else {
                    job.isWaiting = true;
                }
                break;
            case LATE:
            case GONE:
                job.endWith(FOR_ANEW);
                break;
            case WRONG:
            case FROZEN:
                if (isKey(key)) {
                    job.ranges[key] = rangeBehind(job.ranges[key]);
                }
                job.isWaiting = true;
                break;
            default:
                job.leaders[ask.range] = nodeBehind(job.leaders[ask.range]);
                job.isWaiting = true;
                break;
        }
    }

    private int rangeBehind(int range) {
        for (int i = range + 1; i < RANGES; i++) {
            if (isRange(i)) {
                return i;
            }
        }
        return 0;
    }

    private int nodeBehind(int node) {
        return node + 1 < nodeCount ? node + 1 : 0;
    }

    /** Beliefs change with answers alone, so the job sent its ask last to the node that it believes. */
    private void askJobAgain(Job job, Ask ask) {
        if (time - job.sentAt >= SENT_AGAIN_AFTER) {
            int to = nodeBehind(job.leaders[ask.range]);
            job.leaders[ask.range] = to;
            job.sentAt = time;
            post(ask, to);
        }
    }

    public boolean setKeeper(int node, boolean isKept) throws IndexOutOfBoundsException {
        Node it = nodeOf(node);
        boolean before = it.keeps;
        it.keeps = isKept;
        return before;
    }

    private void keep(Node node) {
        boolean isBusy = node.keeperAsk != null && node.keeperAsk.answer == NONE;
        if (isBusy || askCount >= ASKS) {
            return;
        }
        Ask made = null;
        for (int range = 0; range < RANGES && made == null; range++) {
            Copy copy = node.copyOf(range);
            if (copy != null && copy.role == LEADER) {
                made = keepRange(node, range, copy);
            }
        }
        if (made != null) {
            node.keeperAsk = made;
        }
    }

    private Ask keepRange(Node self, int range, Copy copy) {
        long members = copy.members();
        Node silent = silentMember(copy, members);
        if (silent != null && Copy.sizeOf(members) >= 2) {
            return askChange(self, DROP, silent, range, self.number);
        }
        Node fresh = freshNode(members);
        if (fresh != null && Copy.sizeOf(members) < KEPT_MEMBERS) {
            return askChange(self, ADD, fresh, range, self.number);
        }
        int middle = copy.state.middleKey();
        if (middle != NONE && rangeNumbers < RANGES) {
            return askSplit(self, middle, range, self.number);
        }
        long moment = (long) MOMENTS * TICK_K * (time + self.offset - KEPT_OPEN);
        if (moment > copy.state.closed) {
            return askAsOf(self, CLOSE, moment, NONE, range, self.number);
        }
        return null;
    }

    private Node silentMember(Copy copy, long members) {
        for (int i = 0; i < nodeCount; i++) {
            boolean isOther = nodes[i] != copy.home && Copy.diskOf(members, i) != NONE;
            if (isOther && time - copy.gotAt[i] > KEPT_SILENT) {
                return nodes[i];
            }
        }
        return null;
    }

    private Node freshNode(long members) {
        for (int i = 0; i < nodeCount; i++) {
            if (nodes[i].isUp && Copy.diskOf(members, i) == NONE) {
                return nodes[i];
            }
        }
        return null;
    }

    // ---- the net and time

    public int deliver(int choice) throws IllegalArgumentException {
        checkChoice(choice);
        return net.many == 0 ? NONE : deliverMessage(choice % net.many);
    }

    public int lose(int choice) throws IllegalArgumentException {
        checkChoice(choice);
        return loseMessage(choice);
    }

    private int loseMessage(int choice) {
        if (net.many == 0) {
            return NONE;
        }
        net.lost++;
        Message it = net.take(choice % net.many);
        return it == null ? NONE : it.kind;
    }

    public int twice(int choice) throws IllegalArgumentException {
        checkChoice(choice);
        return doubleMessage(choice);
    }

    private int doubleMessage(int choice) {
        if (net.many == 0) {
            return NONE;
        }
        Message it = net.rows[choice % net.many];
        Message like = net.send(it.kind, it.from, it.to, it.range);
        like.copyFrom(it);
        return it.kind;
    }

    private static void checkChoice(int choice) {
        if (choice < 0 || choice > 1000) {
            throw new IllegalArgumentException();
        }
    }

    public int messageAt(int message, int what) throws IndexOutOfBoundsException, IllegalArgumentException {
        if (message < 0 || message >= net.many) {
            throw new IndexOutOfBoundsException();
        }
        Message it = net.rows[message];
        switch (what) {
            case 0: return it.kind;
            case 1: return it.from & 7;
            case 2: return it.to & 7;
            case 3: return it.range;
            case 4: return it.ask != null ? it.ask.number : it.term;
            case 5: return it.kind == VOTE || it.kind == GOT ? (it.isYes ? 1 : 0) : NONE;
            case 6: return it.entries;
            default: throw new IllegalArgumentException();
        }
    }

    public int pass(int ticks) throws IllegalArgumentException, IllegalStateException {
        if (ticks < 1 || ticks > 30) {
            throw new IllegalArgumentException();
        }
        if (time + ticks > LAST_TIME) {
            throw new IllegalStateException();
        }
        for (int i = 0; i < ticks; i++) {
            tick();
        }
        return time;
    }

    public int settle(int ticks) throws IllegalArgumentException, IllegalStateException {
        if (ticks < 1 || ticks > 40) {
            throw new IllegalArgumentException();
        }
        if (time + ticks > LAST_TIME) {
            throw new IllegalStateException();
        }
        int delivered = 0;
        int passed = 0;
        while (delivered < SETTLED_MESSAGES && passed <= ticks) {
            if (net.many > 0) {
                deliverMessage(0);
                delivered++;
            } else if (passed == ticks || isSettled()) {
                return passed;
            } else {
                tick();
                passed++;
            }
        }
        return passed;
    }

    private boolean isSettled() {
        for (int i = 0; i < askCount; i++) {
            if (asks[i].answer == NONE) {
                return false;
            }
        }
        for (int i = 0; i < jobCount; i++) {
            if (jobs[i].state == RUNS) {
                return false;
            }
        }
        for (int range = 0; range < RANGES; range++) {
            if (isRange(range) && leadersOf(range) == 0) {
                return false;
            }
        }
        return true;
    }

    private int leadersOf(int range) {
        int many = 0;
        for (int node = 0; node < nodeCount; node++) {
            Copy copy = nodes[node].copyOf(range);
            if (nodes[node].isUp && copy != null && copy.role == LEADER) {
                many++;
            }
        }
        return many;
    }

    public int play(int seed, int many) throws IllegalArgumentException, IllegalStateException {
        if (many < 1 || many > 150) {
            throw new IllegalArgumentException();
        }
        if (time + many > LAST_TIME) {
            throw new IllegalStateException();
        }
        int drawn = seed;
        for (int i = 0; i < many; i++) {
            drawn = nextSeed(drawn);
            int act = (drawn >>> 16) % 16;
            drawn = nextSeed(drawn);
            int choice = (drawn >>> 16) % 1000;
            if (act > 12) {
                tick();
            } else if (act == 12) {
                doubleMessage(choice);
            } else if (act == 11) {
                loseMessage(choice);
            } else if (net.many > 0) {
                deliverMessage(choice % net.many);
            }
        }
        return time;
    }

    private static int nextSeed(int seed) {
        return seed * 1103515245 + 12345;
    }

    private void tick() {
        time++;
        for (int node = 0; node < nodeCount; node++) {
            for (int range = 0; range < RANGES && nodes[node].isUp; range++) {
                Copy copy = nodes[node].copyOf(range);
                if (copy != null) {
                    int work = tickCopy(copy);
                    followUp(copy, work, NONE);
                }
            }
        }
        for (int i = 0; i < jobCount; i++) {
            Job job = jobs[i];
            if (job.ask != null && job.ask.answer == NONE && job.state == RUNS) {
                askJobAgain(job, job.ask);
            } else {
                job.isWaiting = false;
                goOn(job);
            }
        }
        for (int node = 0; node < nodeCount && time % KEPT_EVERY == 0; node++) {
            if (nodes[node].isUp && nodes[node].keeps) {
                keep(nodes[node]);
            }
        }
    }

    private int tickCopy(Copy copy) {
        if (copy.carried - copy.baseIndex > CARRIED_LOG) {
            copy.layBase();
        }
        if (copy.role == LEADER) {
            copy.touch = time;
            return time % SENDS_EVERY == 0 ? SENDS : IDLE;
        }
        boolean isOverdue = time - copy.touch > TOUCH + TOUCH_BY_NODE * copy.home.number;
        return isOverdue && Copy.isMember(copy.members(), copy.member) ? stand(copy) : IDLE;
    }

    private int stand(Copy copy) {
        long members = copy.members();
        copy.term++;
        copy.voted = copy.member;
        copy.votes = 1 << copy.home.number;
        copy.role = CANDIDATE;
        copy.touch = time;
        if (Copy.sizeOf(members) == 1) {
            copy.lead(time);
            return APPENDED;
        }
        for (int node = 0; node < nodeCount; node++) {
            if (node != copy.home.number && Copy.diskOf(members, node) != NONE) {
                Message it = sendFrom(copy, CALL, Copy.memberOf(members, node));
                it.index = copy.lastIndex();
                it.indexTerm = copy.termAt(it.index);
            }
        }
        return IDLE;
    }

    private Message sendFrom(Copy copy, int kind, int to) {
        Message it = net.send(kind, copy.member, to, copy.range);
        it.term = copy.term;
        return it;
    }

    private int deliverMessage(int index) {
        Message it = net.take(index);
        if (it == null) {
            return NONE;
        }
        int to = it.to & 7;
        Node node = to < nodeCount ? nodes[to] : null;
        if (node == null || !node.isUp) {
            return it.kind;
        }
        if (it.kind == ANSWER) {
            Ask ask = it.ask;
            if (ask != null && ask.answer == NONE) {
                takeAnswer(ask, it);
                Job job = ask.job;
                if (job != null && job.state == RUNS) {
                    heedAnswer(job, ask);
                    goOn(job);
                }
            }
            return it.kind;
        }
        int work = it.kind != REQUEST ? heedMember(it, node) : it.ask != null ? heedRequest(it.ask, node) : IDLE;
        Copy copy = node.copyOf(it.range);
        if (copy != null) {
            followUp(copy, work, it.from & 7);
        }
        return it.kind;
    }

    private void takeAnswer(Ask ask, Message it) {
        ask.answer = it.answer;
        ask.answerValue = it.value;
        ask.answerKey = it.key;
        Transaction of = ask.transaction;
        if (of == null) {
            return;
        }
        boolean isOperation = ask.command == READ || ask.command == WRITE || ask.command == SCAN;
        if (ask.answer == OK && isOperation) {
            of.done++;
            if (ask.command == WRITE) {
                of.wrote[ask.key] = ask;
            }
            if (ask.command == SCAN && it.found != null) {
                ask.found = it.found.clone();
            }
        } else if (isOperation && (ask.answer == LATE || ask.answer == GONE)) {
            of.state = DOOMED;
            of.home.lastK = Math.max(of.home.lastK, (int) (ask.answerValue / MOMENTS));
        } else if (ask.answer == OK && (ask.command == END || ask.command == PUSH)) {
            of.outcome = (int) ask.answerValue;
            of.knownAt |= 1 << ask.home.number;
            if (ask.command == END) {
                of.state = of.outcome;
            }
        }
    }

    private Message answerTo(Ask ask, Node node) {
        Message it = net.send(ANSWER, node.number, ask.home.number, ask.range);
        it.ask = ask;
        return it;
    }

    private int heedRequest(Ask ask, Node node) {
        Copy copy = node.copyOf(ask.range);
        if (ask.command == LOOK && copy != null) {
            copy.state.lookUp(ask, answerTo(ask, node));
            return IDLE;
        }
        int refusal = copy == null ? NO_COPY : copy.refusalOf(ask);
        if (refusal != OK || copy == null) {
            answerTo(ask, node).answer = refusal;
            return IDLE;
        }
        boolean isNew = ask.command == ADD && !Copy.isMember(copy.members(), ask.detail);
        copy.append(copy.term, ask);
        if (isNew) {
            copy.welcome(ask.detail & 7, copy.lastIndex(), time);
        }
        return APPENDED;
    }

    /** What a message of another member does to the copy on a node; returns what is left to do. */
    private int heedMember(Message it, Node node) {
        if (node.disk != it.to >> 3) {
            return IDLE;
        }
        Copy copy = node.copyOf(it.range);
        if (copy == null && it.kind == ENTRIES) {
            sendGot(it, it.term, false, -1);
        }
        if (copy == null && it.kind == BASE) {
            copy = node.makeCopy(it.range, transactions, time);
        }
        if (copy == null) {
            return IDLE;
        }
        if (it.term > copy.term) {
            copy.term = it.term;
            copy.voted = NONE;
            copy.role = FOLLOWER;
        }
        boolean isOld = it.term < copy.term;
        switch (it.kind) {
            case CALL:
                heedCall(copy, it, isOld);
                return IDLE;
            case VOTE:
                return !isOld && it.isYes && copy.wins(it.from, time) ? APPENDED : IDLE;
            case GOT:
                return !isOld && copy.heedGot(it, time) ? ACCEPTED : IDLE;
            default:
                break;
        }
        if (isOld) {
            sendGot(it, copy.term, false, copy.lastIndex());
            return IDLE;
        }
        copy.role = FOLLOWER;
        copy.touch = time;
        if (it.kind == BASE) {
            heedBase(copy, it, node);
            return IDLE;
        }
        heedEntries(copy, it);
        return CARRIES;
    }

    private void heedCall(Copy copy, Message it, boolean isOld) {
        int last = copy.lastIndex();
        int lastTerm = copy.termAt(last);
        boolean isFresh = it.indexTerm > lastTerm || it.indexTerm == lastTerm && it.index >= last;
        boolean isYes = !isOld && isFresh && (copy.voted == NONE || copy.voted == it.from);
        if (isYes) {
            copy.voted = it.from;
            copy.touch = time;
        }
        sendFrom(copy, VOTE, it.from).isYes = isYes;
    }

    private void sendGot(Message told, int term, boolean isYes, int index) {
        Message it = net.send(GOT, told.to, told.from, told.range);
        it.term = term;
        it.isYes = isYes;
        it.index = index;
    }

    private void heedEntries(Copy copy, Message it) {
        int last = copy.lastIndex();
        boolean isUnlike = it.index > last || it.index >= copy.baseIndex && copy.termAt(it.index) != it.indexTerm;
        if (isUnlike) {
            sendGot(it, copy.term, false, Math.min(last, it.index - 1));
            return;
        }
        for (int i = 0; i < it.entries; i++) {
            copy.accept(it.index + 1 + i, it.terms[i], it.asks[i]);
        }
        int told = it.index + it.entries;
        copy.mark = Math.max(copy.mark, Math.min(it.mark, told));
        sendGot(it, copy.term, true, told);
    }

    private void heedBase(Copy copy, Message it, Node node) {
        if (copy.mark >= it.index || it.base == null) {
            sendGot(it, copy.term, true, copy.mark);
            return;
        }
        copy.takeBase(it);
        for (int range = 0; range < RANGES; range++) {
            if ((copy.state.splitOff >> range & 1) == 1) {
                makeFirstCopy(node, range);
            }
        }
        sendGot(it, copy.term, true, it.index);
    }

    /** Makes the copy of a new range on a node, if its disk is a member of the first group, and there is none. */
    private void makeFirstCopy(Node node, int range) {
        if (isRange(range) && node.copyOf(range) == null && Copy.isMember(ranges[range].firstMembers, node.member())) {
            Copy copy = node.makeCopy(range, transactions, time);
            if (copy != null) {
                copy.baseIndex = 0;
                copy.baseMembers = ranges[range].firstMembers;
                copy.base.copyFrom(ranges[range].first);
                copy.forget();
            }
        }
    }

    /** Lets the mark of a LEADER grow, carries out what is agreed, then sends what is due. */
    private void followUp(Copy copy, int work, int sender) {
        if (work == IDLE) {
            return;
        }
        if (work >= ACCEPTED && copy.role == LEADER) {
            copy.raiseMark();
        }
        int many = copy.mark - copy.carried;
        for (int i = 0; i < many; i++) {
            agreeNext(copy);
            carryNext(copy);
        }
        if (copy.role != LEADER) {
            return;
        }
        if (work == ACCEPTED) {
            if (sender >= 0 && sender < NODES && copy.next[sender] <= copy.lastIndex()) {
                sendTo(copy, sender);
            }
        } else if (work == SENDS || work == APPENDED) {
            for (int node = 0; node < nodeCount; node++) {
                if (node != copy.home.number) {
                    sendTo(copy, node);
                }
            }
        }
    }

    private void sendTo(Copy copy, int node) {
        int to = Copy.memberOf(copy.members(), node);
        if (to == NONE) {
            return;
        }
        int next = copy.next[node];
        Message it = sendFrom(copy, next <= copy.baseIndex ? BASE : ENTRIES, to);
        if (it.kind == BASE) {
            it.index = copy.baseIndex;
            it.indexTerm = copy.baseTerm;
            it.members = copy.baseMembers;
            it.takeBase(copy.base);
            return;
        }
        it.index = next - 1;
        it.indexTerm = copy.termAt(next - 1);
        it.mark = copy.mark;
        int last = copy.lastIndex();
        for (int i = 0; i < SENT_ENTRIES && next + i <= last; i++) {
            it.terms[i] = copy.termAt(next + i);
            it.asks[i] = copy.askAtIndex(next + i);
            it.entries++;
        }
    }

    /** The range agrees on the next entry of a copy, if no copy carried it out so far. */
    private void agreeNext(Copy copy) {
        Range range = ranges[copy.range];
        int index = copy.carried + 1;
        if (range == null || index != range.agreed + 1) {
            return;
        }
        Ask ask = copy.askAtIndex(index);
        range.note(copy.termAt(index), ask);
        if (ask == null) {
            return;
        }
        State state = range.state;
        if (ask.command == SPLIT && ask.detail > 0 && ask.detail < RANGES && state.splitsBy(ask)) {
            State upper = new State(transactions);
            upper.copyFrom(state);
            upper.beUpper(ask.key);
            ranges[ask.detail] = new Range(upper, range.members);
        }
        Transaction of = ask.transaction;
        boolean isFirstEnd = ask.command == END && of != null && state.records[of.number] == 0;
        state.carryOut(ask, net.aside);
        if (isFirstEnd && state.records[of.number] == COMMITTED) {
            of.isAgreed = true;
        }
        if (ask.command == FREEZE && net.aside.answer == OK && ask.frozen == null) {
            ask.frozen = new State(transactions);
            ask.frozen.copyFrom(state);
        }
        range.members = Copy.changed(range.members, ask);
    }

    private void carryNext(Copy copy) {
        int index = copy.carried + 1;
        Ask ask = copy.askAtIndex(index);
        copy.carried = index;
        if (ask == null) {
            return;
        }
        boolean isOwn = copy.role == LEADER && copy.termAt(index) == copy.term;
        boolean isParting = ask.command == SPLIT && copy.state.splitsBy(ask);
        copy.state.carryOut(ask, isOwn ? answerTo(ask, copy.home) : net.aside);
        copy.carriedMembers = Copy.changed(copy.carriedMembers, ask);
        if (isParting) {
            makeFirstCopy(copy.home, ask.detail);
        }
        if (ask.command == DROP && copy.role == LEADER && !Copy.isMember(copy.carriedMembers, copy.member)) {
            copy.role = FOLLOWER;
        }
    }

    // ---- counts and checks

    public int count(int what) throws IllegalArgumentException {
        switch (what) {
            case 0: return time;
            case 1: return nodeCount;
            case 2: return upNodes();
            case 3: return rangesThere();
            case 4: return transactionCount;
            case 5: return committedCount();
            case 6: return toldCount();
            case 7: return askCount;
            case 8: return openAsks();
            case 9: return net.many;
            case 10: return net.sent;
            case 11: return net.lost;
            case 12: return leaderCount();
            case 13: return agreedEntries();
            case 14: return fineReadsAsOf();
            case 15: return jobCount;
            case 16: return doneJobs();
            case 17: return text.programCount;
            case 18: return text.length;
            default: throw new IllegalArgumentException();
        }
    }

    private int upNodes() {
        int many = 0;
        for (int i = 0; i < nodeCount; i++) {
            many += nodes[i].isUp ? 1 : 0;
        }
        return many;
    }

    private int rangesThere() {
        int many = 0;
        for (int i = 0; i < RANGES; i++) {
            many += ranges[i] != null ? 1 : 0;
        }
        return many;
    }

    private int committedCount() {
        int many = 0;
        for (int i = 0; i < transactionCount; i++) {
            many += transactions[i].isCommitted() ? 1 : 0;
        }
        return many;
    }

    private int toldCount() {
        int many = 0;
        for (int i = 0; i < transactionCount; i++) {
            many += transactions[i].toldAt != 0 ? 1 : 0;
        }
        return many;
    }

    private int openAsks() {
        int many = 0;
        for (int i = 0; i < askCount; i++) {
            many += asks[i].answer == NONE ? 1 : 0;
        }
        return many;
    }

    private int leaderCount() {
        int many = 0;
        for (int range = 0; range < RANGES; range++) {
            many += leadersOf(range);
        }
        return many;
    }

    private int agreedEntries() {
        int many = 0;
        for (int i = 0; i < RANGES; i++) {
            many += ranges[i] != null ? ranges[i].agreed : 0;
        }
        return many;
    }

    private int fineReadsAsOf() {
        int many = 0;
        for (int i = 0; i < askCount; i++) {
            many += asks[i].isReadAsOf() && asks[i].answer == OK ? 1 : 0;
        }
        return many;
    }

    private int doneJobs() {
        int many = 0;
        for (int i = 0; i < jobCount; i++) {
            many += jobs[i].state == DONE ? 1 : 0;
        }
        return many;
    }

    public boolean agrees() {
        for (int i = 0; i < askCount; i++) {
            Ask ask = asks[i];
            boolean isTold = ask.isReadAsOf() && ask.answer == OK;
            if (isTold && ask.answerValue != committedValue(ask.key, ask.moment)) {
                return false;
            }
        }
        for (int i = 0; i < transactionCount; i++) {
            if (transactions[i].isCommitted() && !isExplained(transactions[i])) {
                return false;
            }
        }
        for (int i = 0; i < jobCount; i++) {
            if (jobs[i].state == DONE && !isExplained(jobs[i])) {
                return false;
            }
        }
        return true;
    }

    /** Whether a transaction found what the committed ones ahead of it, and its own writes, leave. */
    private boolean isExplained(Transaction it) {
        takeCommitted(checkKeys, it.moment - 1);
        for (int i = 0; i < askCount; i++) {
            Ask ask = asks[i];
            if (ask.transaction != it || !ask.isDoneOperation()) {
                continue;
            }
            if (ask.command == WRITE) {
                checkKeys[ask.key] = ask.value;
            } else if (ask.command == READ && checkKeys[ask.key] != ask.answerValue) {
                return false;
            } else if (ask.command == SCAN && !isFound(ask)) {
                return false;
            }
        }
        return true;
    }

    private boolean isFound(Ask ask) {
        for (int key = ask.key; key < ask.answerKey && key < KEYS; key++) {
            if (ask.found == null || ask.found[key] != checkKeys[key]) {
                return false;
            }
        }
        return true;
    }

    /** Whether a job that is DONE gave and left what its program gives and leaves as of its moment. */
    private boolean isExplained(Job job) {
        Transaction it = job.transaction;
        if (it == null) {
            return false;
        }
        takeCommitted(checkKeys, it.moment - 1);
        checkMachine.prepare(job.code, job.a, job.b);
        if (carryOnMap(checkMachine, checkKeys) != 0 || checkMachine.given != job.machine.given) {
            return false;
        }
        for (int key = 0; key < KEYS; key++) {
            if (checkKeys[key] != committedValue(key, it.moment)) {
                return false;
            }
        }
        return true;
    }

    public int errors() {
        int many = pairErrors() + keyErrors();
        for (int range = 0; range < RANGES; range++) {
            if (ranges[range] == null) {
                continue;
            }
            for (int node = 0; node < nodeCount; node++) {
                Copy copy = nodes[node].copyOf(range);
                if (copy != null) {
                    many += ranges[range].unlikeEntries(copy);
                    many += nodes[node].isUp ? feedErrors(copy.state) + leaderErrors(copy, node) : 0;
                }
            }
        }
        return many;
    }

    /** Pairs of which one was told ahead of the other one's begin, though its moment is not the lesser one. */
    private int pairErrors() {
        int many = 0;
        for (int i = 0; i < transactionCount; i++) {
            Transaction told = transactions[i];
            for (int j = 0; j < transactionCount && told.toldAt != 0 && told.state == COMMITTED; j++) {
                boolean isBehind = transactions[j].begunAt > told.toldAt;
                many += isBehind && transactions[j].moment <= told.moment ? 1 : 0;
            }
        }
        return many;
    }

    private int keyErrors() {
        int many = 0;
        for (int key = 0; key < KEYS; key++) {
            int owner = ownerBehind(key, NONE);
            if (owner == NONE) {
                continue;
            }
            many += heldBy(owner, key) != committedValue(key, Long.MAX_VALUE) ? 1 : 0;
            many += ownerBehind(key, owner) != NONE ? 1 : 0;
        }
        return many;
    }

    /** Writers of which a feed since the floor does not tell just what they left in the range. */
    private int feedErrors(State state) {
        long until = state.resolvedMoment();
        int keys = state.keyBits();
        int many = 0;
        for (int i = 0; i < transactionCount; i++) {
            Transaction it = transactions[i];
            if (it.moment > state.floor && it.moment <= until) {
                many += (it.isAgreed ? it.wroteKeys() & keys : 0) != state.versions[i] ? 1 : 0;
            }
        }
        return many;
    }

    private int leaderErrors(Copy copy, int node) {
        int many = 0;
        for (int i = 0; i < node; i++) {
            Copy other = nodes[i].copyOf(copy.range);
            boolean isLeader = copy.role == LEADER && nodes[i].isUp && other != null && other.role == LEADER;
            many += isLeader && other.term == copy.term ? 1 : 0;
        }
        return many;
    }

    public double fineShare() {
        if (askCount == 0) {
            return 0.0;
        }
        int fine = 0;
        for (int i = 0; i < askCount; i++) {
            fine += asks[i].answer == OK ? 1 : 0;
        }
        return (double) fine / (double) askCount;
    }

    public float meanEntries() {
        int copies = 0;
        int entries = 0;
        for (int node = 0; node < nodeCount; node++) {
            for (int range = 0; range < RANGES; range++) {
                Copy copy = nodes[node].copyOf(range);
                if (copy != null) {
                    copies++;
                    entries += copy.entries;
                }
            }
        }
        return copies == 0 ? 0.0f : (float) entries / (float) copies;
    }

    /** A node: its clock, its disk with the copies, and what it does as a keeper. */
    private static final class Node {
        final int number;
        int offset, disk, lastK;
        boolean isUp = true, keeps;
        Ask keeperAsk;
        final Copy[] copies = new Copy[RANGES];

        Node(int number, int offset) {
            this.number = number;
            this.offset = offset;
        }

        /** The node with its disk, as a member of groups. */
        int member() {
            return number + 8 * disk;
        }

        int nextK(int time) {
            return Math.max(lastK + 1, TICK_K * (time + offset + MAX_OFFSET));
        }

        Copy copyOf(int range) {
            Copy copy = range < 0 || range >= RANGES ? null : copies[range];
            return copy != null && copy.isThere ? copy : null;
        }

        int copyCount() {
            int many = 0;
            for (int range = 0; range < RANGES; range++) {
                many += copyOf(range) != null ? 1 : 0;
            }
            return many;
        }

        /** Makes an empty copy, below every base; the row of one that was lost is used again. */
        Copy makeCopy(int range, Transaction[] all, int time) {
            if (range < 0 || range >= RANGES) {
                return null;
            }
            Copy copy = copies[range];
            if (copy == null) {
                copy = new Copy(range, this, all);
                copies[range] = copy;
            }
            copy.clear(number + 8 * disk, time);
            return copy;
        }
    }

    /** What a range holds; it has nothing of keys that are outside of it. */
    private static final class State {
        final Transaction[] all;
        int first, behind, frozenBy, greatestEpoch, splitOff;
        long closed, floor;

        /** Of each key: the greatest moment of reading, and the transaction of the intent, or null. */
        final long[] read = new long[KEYS];
        final Transaction[] intents = new Transaction[KEYS];

        /** Of each transaction: the keys of which it has a version, as bits, and its record (0 without one). */
        final int[] versions = new int[TRANSACTIONS];
        final int[] records = new int[TRANSACTIONS];

        /** Sets of asks: the WRITEs whose values are in intents, the FREEZEs that were joined and refused. */
        final long[] values = new long[ASK_WORDS];
        final long[] joined = new long[ASK_WORDS];
        final long[] refused = new long[ASK_WORDS];

        State(Transaction[] all) {
            this.all = all;
        }

        void copyFrom(State other) {
            first = other.first;
            behind = other.behind;
            frozenBy = other.frozenBy;
            greatestEpoch = other.greatestEpoch;
            splitOff = other.splitOff;
            closed = other.closed;
            floor = other.floor;
            for (int key = 0; key < KEYS; key++) {
                intents[key] = other.intents[key];
            }
            System.arraycopy(other.read, 0, read, 0, KEYS);
            System.arraycopy(other.versions, 0, versions, 0, TRANSACTIONS);
            System.arraycopy(other.records, 0, records, 0, TRANSACTIONS);
            System.arraycopy(other.values, 0, values, 0, ASK_WORDS);
            System.arraycopy(other.joined, 0, joined, 0, ASK_WORDS);
            System.arraycopy(other.refused, 0, refused, 0, ASK_WORDS);
        }

        boolean has(int key) {
            return key >= first && key < behind && key >= 0 && key < KEYS;
        }

        /** Its keys as bits. */
        int keyBits() {
            int bits = 0;
            for (int key = 0; key < KEYS; key++) {
                bits |= has(key) ? 1 << key : 0;
            }
            return bits;
        }

        static boolean isIn(long[] set, Ask ask) {
            int word = ask == null ? NONE : ask.number >> 6;
            return word >= 0 && word < set.length && (set[word] >>> (ask.number & 63) & 1) == 1;
        }

        static void setIn(long[] set, Ask ask, boolean isIn) {
            int word = ask == null ? NONE : ask.number >> 6;
            if (word >= 0 && word < set.length) {
                long bit = 1L << (ask.number & 63);
                set[word] = isIn ? set[word] | bit : set[word] & ~bit;
            }
        }

        /** Carries a command out; the answer is put into the message. */
        void carryOut(Ask ask, Message reply) {
            reply.answer = OK;
            reply.value = 0;
            reply.key = NONE;
            boolean isOnKeys = ask.command <= SPLIT || ask.command >= SCAN;
            if (isOnKeys && refuses(ask, reply)) {
                return;
            }
            switch (ask.command) {
                case READ: readKey(ask, reply); break;
                case WRITE: writeKey(ask, reply); break;
                case END: setRecord(ask.transaction, ask.transaction != null && ask.transaction.isCommit, reply); break;
                case PUSH: pushAway(ask, reply); break;
                case RESOLVE: resolveKey(ask); break;
                case SPLIT:
                    reply.value = ask.detail;
                    if (!isSplitOff(ask.detail)) {
                        splitOff |= 1 << ask.detail;
                        keepOnly(first, ask.key);
                    }
                    break;
                case FREEZE: reply.answer = beFrozen(ask.number + 1); break;
                case JOIN: reply.answer = takeState(ask.freeze); break;
                case REFUSE: reply.answer = beRefused(ask.freeze); break;
                case THAW: reply.answer = beThawed(ask.freeze); break;
                case SCAN: scanKeys(ask, reply); break;
                case CLOSE: closeUpTo(ask.moment); break;
                case SWEEP: reply.answer = sweepUpTo(ask.moment); break;
                default: break;
            }
        }

        /** Answers what cannot be done on these keys; returns whether this is so. */
        boolean refuses(Ask ask, Message reply) {
            int command = ask.command;
            int key = ask.key;
            if ((command == END || command == PUSH) && ask.transaction != null) {
                key = ask.transaction.anchor;
            }
            boolean isDone = command == SPLIT && isSplitOff(ask.detail);
            boolean isKeyless = command == CLOSE || command == SWEEP;
            if (frozenBy != 0) {
                reply.answer = FROZEN;
            } else if (!isDone && !isKeyless && (!has(key) || command == SPLIT && key == first)) {
                reply.answer = WRONG;
            } else if ((command == READ || command == SCAN) && ask.moment < floor) {
                reply.answer = GONE;
                reply.value = floor;
            }
            return reply.answer != OK;
        }

        int beFrozen(int epoch) {
            if (frozenBy != 0) {
                return frozenBy == epoch ? OK : FROZEN;
            }
            if (epoch <= greatestEpoch) {
                return WRONG;
            }
            frozenBy = epoch;
            greatestEpoch = epoch;
            return OK;
        }

        int takeState(Ask freeze) {
            if (isIn(refused, freeze)) {
                return REFUSED;
            }
            if (isIn(joined, freeze)) {
                return OK;
            }
            if (frozenBy != 0) {
                return FROZEN;
            }
            State other = freeze == null ? null : freeze.frozen;
            if (other == null || other.first != behind) {
                return WRONG;
            }
            for (int key = 0; key < KEYS; key++) {
                if (other.has(key)) {
                    read[key] = other.read[key];
                    intents[key] = other.intents[key];
                }
            }
            for (int i = 0; i < TRANSACTIONS; i++) {
                versions[i] |= other.versions[i];
                records[i] |= other.records[i];
            }
            for (int i = 0; i < ASK_WORDS; i++) {
                values[i] |= other.values[i];
            }
            behind = other.behind;
            closed = Math.min(closed, other.closed);
            floor = Math.max(floor, other.floor);
            setIn(joined, freeze, true);
            return OK;
        }

        int beRefused(Ask freeze) {
            if (isIn(joined, freeze)) {
                return JOINED;
            }
            setIn(refused, freeze, true);
            return OK;
        }

        int beThawed(Ask freeze) {
            if (freeze == null || frozenBy != freeze.number + 1) {
                return WRONG;
            }
            frozenBy = 0;
            return OK;
        }

        boolean isSplitOff(int range) {
            return (splitOff >> range & 1) == 1;
        }

        /** Whether this SPLIT would split a range off now. */
        boolean splitsBy(Ask ask) {
            return frozenBy == 0 && !isSplitOff(ask.detail) && ask.key > first && ask.key < behind;
        }

        /** Whether an intent of another transaction with a moment up to the told one is on a key. */
        boolean isBlocked(int key, Transaction of, long moment) {
            Transaction holder = intents[key];
            return holder != null && holder != of && holder.moment <= moment;
        }

        void noteRead(int key, Transaction of, long moment) {
            long due = of == null ? moment + 1 : moment;
            read[key] = Math.max(read[key], due);
        }

        void readKey(Ask ask, Message reply) {
            int key = ask.key;
            if (isBlocked(key, ask.transaction, ask.moment)) {
                makeWait(key, reply);
                return;
            }
            noteRead(key, ask.transaction, ask.moment);
            reply.value = valueFor(key, ask.moment, ask.write);
        }

        void makeWait(int key, Message reply) {
            Transaction holder = intents[key];
            if (holder != null) {
                reply.answer = WAITS;
                reply.value = holder.number;
                reply.key = key;
            }
        }

        /** What is read of a key: the own write, if it is in the intent, or what the versions tell. */
        long valueFor(int key, long moment, Ask write) {
            if (write != null && holdsValue(key, write)) {
                return write.value;
            }
            Transaction writer = newestWriter(key, moment);
            return writer == null ? ABSENT : writer.valueOf(key);
        }

        /** Whether the intent on a key has the value of this WRITE. */
        boolean holdsValue(int key, Ask write) {
            if (write == null || write.transaction == null || write.key != key || intents[key] != write.transaction) {
                return false;
            }
            int word = write.number >> 6;
            return word < values.length && (values[word] >>> (write.number & 63) & 1) == 1;
        }

        /** The transaction of the version of a key with the greatest moment up to the told one; null without one. */
        Transaction newestWriter(int key, long moment) {
            Transaction newest = null;
            for (int i = 0; i < TRANSACTIONS; i++) {
                Transaction it = (versions[i] >>> key & 1) == 1 ? all[i] : null;
                if (it != null && it.moment <= moment && (newest == null || it.moment > newest.moment)) {
                    newest = it;
                }
            }
            return newest;
        }

        /** The transaction with the least moment above the told one that has versions of one of the keys; null without one. */
        Transaction nextWriter(int keys, long moment) {
            Transaction next = null;
            for (int i = 0; i < TRANSACTIONS; i++) {
                Transaction it = (versions[i] & keys) != 0 ? all[i] : null;
                if (it != null && it.moment > moment && (next == null || it.moment < next.moment)) {
                    next = it;
                }
            }
            return next;
        }

        void writeKey(Ask ask, Message reply) {
            int key = ask.key;
            Transaction holder = intents[key];
            if (holder != null && holder != ask.transaction) {
                if (holder.moment < ask.moment) {
                    makeWait(key, reply);
                } else {
                    reply.answer = LATE;
                    reply.value = holder.moment;
                }
                return;
            }
            Transaction newest = newestWriter(key, Long.MAX_VALUE);
            long written = newest == null ? -1 : newest.moment;
            if (read[key] > ask.moment || written >= ask.moment) {
                reply.answer = LATE;
                reply.value = Math.max(read[key], written);
                return;
            }
            intents[key] = ask.transaction;
            setIn(values, ask, true);
        }

        void setRecord(Transaction of, boolean isCommit, Message reply) {
            if (of == null) {
                return;
            }
            if (records[of.number] == 0) {
                records[of.number] = isCommit ? COMMITTED : ABORTED;
            }
            reply.value = records[of.number];
        }

        void pushAway(Ask ask, Message reply) {
            Transaction of = ask.transaction;
            if (of != null && records[of.number] == 0 && ask.moment < of.moment / MOMENTS + PUSHED_K) {
                reply.answer = WAITS;
                reply.value = of.number;
            } else {
                setRecord(of, false, reply);
            }
        }

        void resolveKey(Ask ask) {
            Transaction of = ask.transaction;
            if (of == null || intents[ask.key] != of) {
                return;
            }
            if (holdsValue(ask.key, ask.write)) {
                versions[of.number] |= 1 << ask.key;
            }
            dropIntent(ask.key);
        }

        void dropIntent(int key) {
            Transaction holder = intents[key];
            intents[key] = null;
            Ask write = holder == null ? null : holder.lastWrite;
            while (write != null) {
                if (write.key == key) {
                    setIn(values, write, false);
                }
                write = write.write;
            }
        }

        int intentValues(int key) {
            Transaction holder = intents[key];
            Ask write = holder == null ? null : holder.lastWrite;
            int many = 0;
            while (write != null) {
                many += write.key == key && isIn(values, write) ? 1 : 0;
                write = write.write;
            }
            return many;
        }

        void scanKeys(Ask ask, Message reply) {
            Transaction of = ask.transaction;
            int end = Math.min(ask.detail, behind);
            for (int key = ask.key; key < end; key++) {
                if (has(key) && isBlocked(key, of, ask.moment)) {
                    makeWait(key, reply);
                    return;
                }
            }
            long[] found = reply.clearFound();
            int many = 0;
            for (int key = ask.key; key < end; key++) {
                if (has(key)) {
                    noteRead(key, of, ask.moment);
                    // A transaction writes nothing while it scans, so what it wrote is as it was when this was asked.
                    found[key] = valueFor(key, ask.moment, of == null ? null : of.writeOf(key));
                    many += found[key] != ABSENT ? 1 : 0;
                }
            }
            reply.value = many;
            reply.key = end;
        }

        void closeUpTo(long moment) {
            closed = Math.max(closed, moment);
            for (int key = 0; key < KEYS; key++) {
                if (has(key)) {
                    read[key] = Math.max(read[key], moment + 1);
                }
            }
        }

        int sweepUpTo(long moment) {
            if (moment > closed) {
                return WRONG;
            }
            floor = Math.max(floor, moment);
            for (int key = 0; key < KEYS; key++) {
                Transaction newest = has(key) ? newestWriter(key, moment) : null;
                for (int i = 0; i < TRANSACTIONS && newest != null; i++) {
                    boolean isOld = all[i] != null && all[i].moment <= moment;
                    if (isOld && (all[i] != newest || newest.valueOf(key) == ABSENT)) {
                        versions[i] &= ~(1 << key);
                    }
                }
            }
            return OK;
        }

        /** Forgets all keys but those from the first one up to the one ahead of the second one. */
        void keepOnly(int from, int to) {
            int kept = 0;
            for (int key = 0; key < KEYS; key++) {
                if (key >= from && key < to) {
                    kept |= 1 << key;
                } else {
                    dropIntent(key);
                    read[key] = 0;
                }
            }
            first = from;
            behind = to;
            for (int i = 0; i < TRANSACTIONS; i++) {
                versions[i] &= kept;
                if (all[i] != null && !has(all[i].anchor)) {
                    records[i] = 0;
                }
            }
        }

        /** Becomes the first state of the range that is split off from this one at a key. */
        void beUpper(int key) {
            keepOnly(key, behind);
            frozenBy = 0;
            greatestEpoch = 0;
            splitOff = 0;
            for (int i = 0; i < ASK_WORDS; i++) {
                joined[i] = 0;
                refused[i] = 0;
            }
        }

        void lookUp(Ask ask, Message reply) {
            reply.answer = OK;
            int key = ask.key;
            if (!has(key)) {
                reply.answer = WRONG;
            } else if (ask.moment < floor) {
                reply.answer = GONE;
                reply.value = floor;
            } else if (ask.moment > closed || isBlocked(key, null, ask.moment)) {
                reply.answer = UNKNOWN;
            } else {
                reply.value = valueFor(key, ask.moment, null);
            }
        }

        long resolvedMoment() {
            long least = closed;
            for (int key = 0; key < KEYS; key++) {
                Transaction holder = intents[key];
                least = holder == null ? least : Math.min(least, holder.moment - 1);
            }
            return least;
        }

        int versionsBetween(long since, long until) {
            int many = 0;
            for (int i = 0; i < TRANSACTIONS; i++) {
                if (all[i] != null && all[i].moment > since && all[i].moment <= until) {
                    many += Integer.bitCount(versions[i]);
                }
            }
            return many;
        }

        int versionCount() {
            int many = 0;
            for (int i = 0; i < TRANSACTIONS; i++) {
                many += Integer.bitCount(versions[i]);
            }
            return many;
        }

        int intentCount() {
            int many = 0;
            for (int key = 0; key < KEYS; key++) {
                many += intents[key] != null ? 1 : 0;
            }
            return many;
        }

        int recordCount() {
            int many = 0;
            for (int i = 0; i < TRANSACTIONS; i++) {
                many += records[i] != 0 ? 1 : 0;
            }
            return many;
        }

        /** The versions and the intent of a key together. */
        int heldOn(int key) {
            int many = intents[key] != null ? 1 : 0;
            for (int i = 0; i < TRANSACTIONS; i++) {
                many += versions[i] >>> key & 1;
            }
            return many;
        }

        /** The key at which a keeper splits: at least half of what it has is ahead of it, if this is enough. NONE without one. */
        int middleKey() {
            int total = versionCount() + intentCount();
            int ahead = 0;
            for (int key = 0; key < KEYS && total > KEPT_HELD; key++) {
                ahead += heldOn(key);
                if (2 * ahead >= total && has(key)) {
                    return has(key + 1) ? key + 1 : NONE;
                }
            }
            return NONE;
        }
    }

    /** A copy of a range on a node; a member is told as its node and 8 times the number of its disk, a group in 12 bits a node. */
    private static final class Copy {
        final int range;
        final Node home;
        int member;
        boolean isThere;
        int term, voted;
        int baseIndex, baseTerm;
        long baseMembers;
        final State base;
        int entries;
        int[] terms = new int[FIRST_LOG];
        Ask[] asks = new Ask[FIRST_LOG];
        int mark, carried, role, touch, votes;
        long carriedMembers;
        final State state;
        final int[] next = new int[NODES];
        final int[] match = new int[NODES];
        final int[] gotAt = new int[NODES];

        Copy(int range, Node home, Transaction[] all) {
            this.range = range;
            this.home = home;
            base = new State(all);
            state = new State(all);
        }

        static int diskOf(long group, int node) {
            return node < 0 || node >= NODES ? NONE : (int) (group >> 12 * node & 4095) - 1;
        }

        static int memberOf(long group, int node) {
            int disk = diskOf(group, node);
            return disk == NONE ? NONE : node + 8 * disk;
        }

        static boolean isMember(long group, int member) {
            return diskOf(group, member & 7) == member >> 3;
        }

        static long without(long group, int node) {
            return group & ~(4095L << 12 * node);
        }

        static long with(long group, int member) {
            int node = member & 7;
            return without(group, node) | (long) ((member >> 3) + 1) << 12 * node;
        }

        static int nodesOf(long group) {
            int nodes = 0;
            for (int node = 0; node < NODES; node++) {
                nodes |= diskOf(group, node) == NONE ? 0 : 1 << node;
            }
            return nodes;
        }

        static int sizeOf(long group) {
            return Integer.bitCount(nodesOf(group));
        }

        /** A group behind the entry with this ask. */
        static long changed(long group, Ask ask) {
            if (ask == null || ask.command != ADD && ask.command != DROP) {
                return group;
            }
            return ask.command == ADD ? with(group, ask.detail) : without(group, ask.detail & 7);
        }

        /** Is as a copy that was made just now, below every base. */
        void clear(int member, int time) {
            this.member = member;
            isThere = true;
            term = 0;
            voted = NONE;
            baseIndex = -1;
            baseTerm = 0;
            baseMembers = 0;
            entries = 0;
            touch = time;
            role = FOLLOWER;
            mark = -1;
            carried = -1;
            carriedMembers = 0;
        }

        /** All that is in memory is as it is when the node starts. */
        void forget() {
            mark = baseIndex;
            carried = baseIndex;
            carriedMembers = baseMembers;
            state.copyFrom(base);
            role = FOLLOWER;
            votes = 0;
        }

        int lastIndex() {
            return baseIndex + entries;
        }

        boolean hasEntry(int index) {
            int row = index - baseIndex - 1;
            return row >= 0 && row < entries && row < terms.length && row < asks.length;
        }

        int termAt(int index) {
            if (index == baseIndex) {
                return baseTerm;
            }
            return hasEntry(index) ? terms[index - baseIndex - 1] : NONE;
        }

        Ask askAtIndex(int index) {
            return hasEntry(index) ? asks[index - baseIndex - 1] : null;
        }

        /** The members by the whole log. */
        long members() {
            long group = baseMembers;
            for (int row = 0; row < entries && row < asks.length; row++) {
                group = changed(group, asks[row]);
            }
            return group;
        }

        void append(int entryTerm, Ask ask) {
            if (entries >= terms.length || entries >= asks.length) {
                int[] moreTerms = new int[2 * entries + 1];
                Ask[] moreAsks = new Ask[2 * entries + 1];
                for (int row = 0; row < entries && row < terms.length && row < asks.length; row++) {
                    moreTerms[row] = terms[row];
                    moreAsks[row] = asks[row];
                }
                terms = moreTerms;
                asks = moreAsks;
            }
            terms[entries] = entryTerm;
            asks[entries] = ask;
            entries++;
        }

        /** Takes an entry that a leader told into the log, unless it is there or below the base. */
        void accept(int index, int entryTerm, Ask ask) {
            if (index <= baseIndex || index > lastIndex() + 1) {
                return;
            }
            if (index <= lastIndex()) {
                if (termAt(index) == entryTerm) {
                    return;
                }
                entries = index - baseIndex - 1;
            }
            append(entryTerm, ask);
        }

        /** Lays the base where it has carried out to; returns how many entries are gone. */
        int layBase() {
            int gone = carried - baseIndex;
            baseTerm = termAt(carried);
            baseMembers = carriedMembers;
            base.copyFrom(state);
            dropEntries(gone);
            baseIndex = carried;
            return gone;
        }

        void dropEntries(int gone) {
            int left = Math.max(0, entries - gone);
            for (int row = 0; row < left && row + gone < terms.length && row + gone < asks.length; row++) {
                terms[row] = terms[row + gone];
                asks[row] = asks[row + gone];
            }
            entries = left;
        }

        void takeBase(Message it) {
            boolean isKnown = hasEntry(it.index) && termAt(it.index) == it.indexTerm;
            dropEntries(isKnown ? it.index - baseIndex : entries);
            baseIndex = it.index;
            baseTerm = it.indexTerm;
            baseMembers = it.members;
            base.copyFrom(it.base);
            forget();
        }

        /** How a REQUEST is answered at once; OK if it can be appended. */
        int refusalOf(Ask ask) {
            if (role != LEADER) {
                return NOT_LEADER;
            }
            if (entries >= FULL_LOG) {
                return FULL;
            }
            if (ask.command != ADD && ask.command != DROP) {
                return OK;
            }
            for (int index = mark + 1; index <= lastIndex(); index++) {
                Ask other = askAtIndex(index);
                if (other != null && (other.command == ADD || other.command == DROP)) {
                    return LATER;
                }
            }
            int disk = diskOf(members(), ask.detail & 7);
            boolean isOther = ask.command == ADD && disk != NONE && disk != ask.detail >> 3;
            // Terms in a log never sink, so an entry up to the mark has the own term just if that at the mark has it.
            return isOther || termAt(mark) != term ? LATER : OK;
        }

        /** Counts a vote; returns whether it is the LEADER by it. */
        boolean wins(int voter, int time) {
            long group = members();
            if (role != CANDIDATE || !isMember(group, voter)) {
                return false;
            }
            votes |= 1 << (voter & 7);
            if (2 * Integer.bitCount(votes & nodesOf(group)) <= sizeOf(group)) {
                return false;
            }
            lead(time);
            return true;
        }

        void lead(int time) {
            role = LEADER;
            for (int node = 0; node < NODES; node++) {
                welcome(node, lastIndex() + 1, time);
            }
            append(term, null);
        }

        void welcome(int node, int index, int time) {
            if (node >= 0 && node < NODES) {
                next[node] = index;
                match[node] = -1;
                gotAt[node] = time;
            }
        }

        /** Notes a GOT; returns whether it was one of a member to a LEADER. */
        boolean heedGot(Message it, int time) {
            int node = it.from & 7;
            if (role != LEADER || node >= NODES || !isMember(members(), it.from)) {
                return false;
            }
            gotAt[node] = time;
            if (it.isYes) {
                match[node] = Math.max(match[node], it.index);
                next[node] = Math.max(next[node], match[node] + 1);
            } else {
                next[node] = Math.max(Math.min(next[node] - 1, it.index + 1), match[node] + 1);
            }
            return true;
        }

        /** Raises the mark of a LEADER to what a majority has of its own term. */
        void raiseMark() {
            long group = members();
            for (int index = lastIndex(); index > mark && termAt(index) == term; index--) {
                int have = 0;
                for (int node = 0; node < NODES; node++) {
                    boolean isSelf = node == home.number;
                    boolean hasIt = isSelf ? isMember(group, member) : diskOf(group, node) != NONE && match[node] >= index;
                    have += hasIt ? 1 : 0;
                }
                if (2 * have > sizeOf(group)) {
                    mark = index;
                    return;
                }
            }
        }
    }

    /** A range as it was agreed on. */
    private static final class Range {
        final State state, first;
        final long firstMembers;
        long members;
        int agreed;
        int[] terms = new int[FIRST_LOG];
        Ask[] asks = new Ask[FIRST_LOG];

        Range(State first, long members) {
            this.first = first;
            firstMembers = members;
            this.members = members;
            state = new State(first.all);
            state.copyFrom(first);
        }

        /** Notes the next entry that is agreed on. */
        void note(int term, Ask ask) {
            if (agreed >= terms.length || agreed >= asks.length) {
                int[] moreTerms = new int[2 * agreed + 1];
                Ask[] moreAsks = new Ask[2 * agreed + 1];
                for (int row = 0; row < agreed && row < terms.length && row < asks.length; row++) {
                    moreTerms[row] = terms[row];
                    moreAsks[row] = asks[row];
                }
                terms = moreTerms;
                asks = moreAsks;
            }
            terms[agreed] = term;
            asks[agreed] = ask;
            agreed++;
        }

        /** How many entries in the log of a copy it carried out otherwise than they were agreed on. */
        int unlikeEntries(Copy copy) {
            int many = 0;
            for (int index = copy.baseIndex + 1; index <= copy.carried; index++) {
                int row = index - 1;
                boolean isAgreed = row >= 0 && row < agreed && row < terms.length && row < asks.length;
                many += isAgreed && terms[row] == copy.termAt(index) && asks[row] == copy.askAtIndex(index) ? 0 : 1;
            }
            return many;
        }
    }

    private static final class Transaction {
        final int number;
        final Node home;
        final long moment;
        final Job job;
        final int begunAt;
        int state = OPEN, anchor = NONE, operations, done, toldAt, outcome = NONE, knownAt;

        /** Whether its END shall commit it; whether a group has agreed on an END by which it is committed. */
        boolean isCommit, isAgreed;
        Ask ask, lastWrite;

        /** Of each key the latest WRITE that was answered OK. */
        final Ask[] wrote = new Ask[KEYS];

        Transaction(int number, Node home, long moment, Job job, int begunAt) {
            this.number = number;
            this.home = home;
            this.moment = moment;
            this.job = job;
            this.begunAt = begunAt;
        }

        boolean isAsking() {
            return ask != null && ask.answer == NONE;
        }

        boolean canEnd(boolean commits) {
            return state == OPEN || state == DOOMED && !commits || state == ENDING && commits == isCommit;
        }

        boolean isCommitted() {
            return isAgreed || state == COMMITTED && anchor == NONE;
        }

        /** The latest WRITE of a key that was answered OK; null without one. */
        Ask writeOf(int key) {
            return key < 0 || key >= KEYS ? null : wrote[key];
        }

        long valueOf(int key) {
            Ask write = key < 0 || key >= KEYS ? null : wrote[key];
            return write == null ? ABSENT : write.value;
        }

        int wroteKeys() {
            int keys = 0;
            for (int key = 0; key < KEYS; key++) {
                keys |= wrote[key] != null ? 1 << key : 0;
            }
            return keys;
        }
    }

    private static final class Ask {
        final int number, command, range;
        final Node home;
        Transaction transaction;
        int key = NONE, operation;

        /** Of SCAN the key behind, of SPLIT the new range, of FREEZE the range into which, of ADD and DROP the member. */
        int detail;

        /** The moment of which it is; of PUSH the k. */
        long moment;
        long value;

        /** Of READ the own WRITE that it may see, of RESOLVE that which becomes a version, of WRITE the one ahead of it. */
        Ask write;

        /** Of JOIN, REFUSE and THAW the FREEZE; of FREEZE the state as it was frozen. */
        Ask freeze;
        State frozen;
        int answer = NONE, answerKey = NONE;
        long answerValue;
        long[] found;
        Job job;

        Ask(int number, int command, Node home, int range) {
            this.number = number;
            this.command = command;
            this.home = home;
            this.range = range;
        }

        boolean isDoneOperation() {
            return answer == OK && (command == READ || command == WRITE || command == SCAN);
        }

        boolean isReadAsOf() {
            return command == LOOK || command == READ && transaction == null;
        }

        /** The key with this index among those that a SCAN found. */
        int foundKey(int index) {
            int left = index;
            for (int i = 0; found != null && i < found.length && left >= 0; i++) {
                if (found[i] != ABSENT) {
                    if (left == 0) {
                        return i;
                    }
                    left--;
                }
            }
            return NONE;
        }
    }

    /** A message; members are told with their disks, and of a REQUEST or ANSWER the nodes alone. */
    private static final class Message {
        int kind, from, to, range, term;
        Ask ask;

        /** The index ahead of the entries, of the last entry of a candidate, of a base, or that is got; and its term. */
        int index, indexTerm, mark, entries;
        final int[] terms = new int[SENT_ENTRIES];
        final Ask[] asks = new Ask[SENT_ENTRIES];
        boolean isYes;
        State base;
        long members;
        int answer, key;
        long value;
        long[] found;

        void copyFrom(Message other) {
            term = other.term;
            ask = other.ask;
            index = other.index;
            indexTerm = other.indexTerm;
            mark = other.mark;
            entries = other.entries;
            for (int i = 0; i < SENT_ENTRIES; i++) {
                terms[i] = other.terms[i];
                asks[i] = other.asks[i];
            }
            isYes = other.isYes;
            members = other.members;
            answer = other.answer;
            key = other.key;
            value = other.value;
            if (kind == BASE && other.base != null) {
                takeBase(other.base);
            }
            if (kind == ANSWER && other.found != null) {
                System.arraycopy(other.found, 0, clearFound(), 0, KEYS);
            }
        }

        void takeBase(State other) {
            if (base == null) {
                base = new State(other.all);
            }
            base.copyFrom(other);
        }

        long[] clearFound() {
            if (found == null) {
                found = new long[KEYS];
            }
            for (int i = 0; i < KEYS; i++) {
                found[i] = ABSENT;
            }
            return found;
        }
    }

    /** The messages on their way, in the order in which they were sent; their rows are used again. */
    private static final class Net {
        final Message[] rows = new Message[MESSAGES];
        int many, sent, lost;

        /** The message that was taken last: it is read while others are sent, so its row is free only behind that. */
        Message taken;

        /** Takes what goes nowhere. */
        final Message aside = new Message();

        Message send(int kind, int from, int to, int range) {
            sent++;
            Message it = aside;
            if (many < MESSAGES) {
                if (rows[many] == null) {
                    rows[many] = new Message();
                }
                it = rows[many];
                many++;
            } else {
                lost++;
            }
            it.kind = kind;
            it.from = from;
            it.to = to;
            it.range = range;
            it.term = 0;
            it.ask = null;
            it.entries = 0;
            it.isYes = false;
            it.answer = OK;
            it.value = 0;
            it.key = NONE;
            return it;
        }

        /** Takes a message out; null without one. */
        Message take(int index) {
            if (index < 0 || index >= many || many > MESSAGES) {
                return null;
            }
            Message it = rows[index];
            for (int i = index; i + 1 < many; i++) {
                rows[i] = rows[i + 1];
            }
            many--;
            rows[many] = taken;
            taken = it;
            return it;
        }
    }

    private static final class Job {
        final Node home;
        final int program, a, b;
        int[] code;
        int state = RUNS, fell, begun = 1, phase = WORKS;
        Transaction transaction;

        /** What it does next, or what it asks for; why it ends its transaction. */
        int next = TO_BEGIN, ending = FOR_GOOD;

        /** Whether it waits for an answer, or rests. */
        boolean isWaiting;

        /** Its latest ask, and when it sent this itself: again() of it does not count. */
        Ask ask;
        int sentAt;
        Transaction pushed;
        int pushKey, cleanKey;
        final int[] ranges = new int[KEYS];
        final int[] leaders = new int[RANGES];
        final Machine machine = new Machine();

        Job(Node home, int program, int a, int b) {
            this.home = home;
            this.program = program;
            this.a = a;
            this.b = b;
            for (int range = 0; range < RANGES; range++) {
                leaders[range] = home.number;
            }
        }

        void fall(int how) {
            state = FELL;
            fell = how;
        }

        /** The key by which what it asks finds its range. */
        int keyInHand() {
            switch (next) {
                case TO_PUSH: return pushed == null ? NONE : pushed.anchor;
                case TO_RESOLVE: return pushed == null ? NONE : pushKey;
                case TO_END: return transaction == null ? NONE : transaction.anchor;
                case TO_CLEAN: return cleanKey;
                default: return machine.key;
            }
        }

        /** Ends its transaction: at once without an anchor key, otherwise by an END. */
        void endWith(int why) {
            ending = why;
            if (transaction == null) {
                return;
            }
            if (transaction.anchor != NONE) {
                next = TO_END;
                return;
            }
            transaction.state = why == FOR_GOOD ? COMMITTED : ABORTED;
            if (why == FOR_GOOD) {
                phase = TELLS;
                next = TO_TELL;
            } else {
                beAborted();
            }
        }

        /** Falls, or begins anew, behind its transaction was aborted. */
        void beAborted() {
            if (ending == FOR_FALL) {
                fall(machine.fell);
            } else if (begun >= MAX_BEGUN) {
                fall(MANY);
            } else {
                begun++;
                next = TO_BEGIN;
            }
        }

        void cleanFrom(int key) {
            for (int i = key; i < KEYS; i++) {
                if (transaction != null && transaction.wrote[i] != null) {
                    cleanKey = i;
                    next = TO_CLEAN;
                    return;
                }
            }
            phase = TELLS;
            next = TO_TELL;
        }

        /** What it makes of an answer OK. */
        void heedFine(Ask it) {
            switch (next) {
                case TO_PUSH:
                    next = TO_RESOLVE;
                    break;
                case TO_RESOLVE:
                    phase = WORKS;
                    next = TO_OPERATE;
                    break;
                case TO_END:
                    if (it.answerValue == COMMITTED) {
                        phase = CLEANS;
                        cleanFrom(0);
                    } else {
                        beAborted();
                    }
                    break;
                case TO_CLEAN:
                    cleanFrom(cleanKey + 1);
                    break;
                default:
                    if (it.command != SCAN) {
                        machine.takeAnswer(it.answerValue);
                        next = TO_CALCULATE;
                    } else if (machine.takeScan(it)) {
                        next = TO_CALCULATE;
                    }
                    break;
            }
        }
    }

    /** Carries the code of a program out, up to each instruction that needs the keys of the store. */
    private static final class Machine {
        int[] code;
        int at, steps, height, given, fell, scanAt;

        /** What the instruction needs: the key, the key behind the last one of a scan, the value to be put. */
        int key, behind;
        long value;
        final int[] variables = new int[26];
        final int[] pile = new int[PILE];
        final long[] found = new long[KEYS];

        void prepare(int[] program, int a, int b) {
            code = program;
            at = 0;
            steps = 0;
            height = 0;
            given = 0;
            fell = 0;
            for (int i = 0; i < variables.length; i++) {
                variables[i] = 0;
            }
            variables[0] = a;
            variables[1] = b;
        }

        int operand(int which) {
            int place = 4 * at + which;
            return code == null || place < 0 || place >= code.length ? 0 : code[place];
        }

        void lay(int it) {
            if (height < pile.length) {
                pile[height] = it;
                height++;
            }
        }

        int lift() {
            if (height == 0) {
                return 0;
            }
            height--;
            return pile[height];
        }

        void store(int variable, int it) {
            if (variable >= 0 && variable < variables.length) {
                variables[variable] = it;
            }
        }

        int content(int variable) {
            return variable >= 0 && variable < variables.length ? variables[variable] : 0;
        }

        int falls(int how) {
            fell = how;
            given = 0;
            return DO_FAIL;
        }

        /** Goes on to the next instruction that needs the keys, or to the end, or to a fall; returns its number. */
        int advance() {
            for (int turn = 0; turn < FAR; turn++) {
                if (code == null || at < 0 || 4 * at + 3 >= code.length) {
                    return DO_END;
                }
                int act = code[4 * at];
                if (act >= DO_GET) {
                    if (act != DO_NEXT) {
                        return demand(act);
                    }
                    stepToNextFound();
                } else if (act == DO_STEP) {
                    if (steps >= MAX_STEPS) {
                        return falls(TIRED);
                    }
                    steps++;
                    at++;
                } else if (act >= DO_ADD && act <= DO_SAME) {
                    int right = lift();
                    if (right == 0 && (act == DO_DIV || act == DO_REM)) {
                        return falls(ZERO);
                    }
                    lay(calculate(act, lift(), right));
                    at++;
                } else {
                    move(act);
                }
            }
            return falls(TIRED);
        }

        void move(int act) {
            int x = operand(1);
            at++;
            switch (act) {
                case DO_PUSH: lay(x); break;
                case DO_LOAD: lay(content(x)); break;
                case DO_STORE: store(x, lift()); break;
                case DO_NEG: lay(-lift()); break;
                case DO_JUMP: at = x; break;
                default: at = lift() == 0 ? x : at; break;
            }
        }

        static int calculate(int act, int left, int right) {
            switch (act) {
                case DO_ADD: return left + right;
                case DO_SUB: return left - right;
                case DO_MUL: return left * right;
                case DO_DIV: return right == 0 ? 0 : left / right;
                case DO_REM: return right == 0 ? 0 : left % right;
                case DO_LESS: return left < right ? 1 : 0;
                case DO_MORE: return left > right ? 1 : 0;
                default: return left == right ? 1 : 0;
            }
        }

        void stepToNextFound() {
            while (scanAt < KEYS && (scanAt < 0 || found[scanAt] == ABSENT)) {
                scanAt++;
            }
            if (scanAt >= KEYS) {
                at = operand(3);
                return;
            }
            store(operand(1), scanAt);
            store(operand(2), (int) found[scanAt]);
            scanAt++;
            at++;
        }

        /** Takes what an instruction needs from the pile; it is carried out when this is answered. */
        int demand(int act) {
            if (act == DO_FAIL) {
                return falls(FAILED);
            }
            if (act == DO_GIVE || act == DO_END) {
                given = act == DO_GIVE ? lift() : 0;
                return DO_END;
            }
            value = act == DO_PUT ? lift() : ABSENT;
            behind = act == DO_SCAN ? lift() : 0;
            key = lift();
            if (!isKey(key) || act == DO_SCAN && (behind <= key || behind > KEYS)) {
                return falls(KEY);
            }
            if (act == DO_SCAN) {
                scanAt = key;
                for (int i = 0; i < KEYS; i++) {
                    found[i] = ABSENT;
                }
            }
            return act;
        }

        /** The command by which the keys are asked. */
        int command() {
            int act = operand(0);
            return act == DO_SCAN ? SCAN : act == DO_PUT || act == DO_DEL ? WRITE : READ;
        }

        /** Goes on behind a GET, HAS, PUT or DEL, with the value of the key. */
        void takeAnswer(long told) {
            int act = operand(0);
            if (act == DO_GET) {
                store(operand(1), told == ABSENT ? 0 : (int) told);
            } else if (act == DO_HAS) {
                store(operand(1), told == ABSENT ? 0 : 1);
            }
            at++;
        }

        /** Takes what a SCAN found; returns whether all keys are covered. */
        boolean takeScan(Ask it) {
            for (int i = Math.max(it.key, 0); i < it.answerKey && i < KEYS; i++) {
                found[i] = it.found == null ? ABSENT : it.found[i];
            }
            return takeCovered(it.answerKey);
        }

        /** Goes on behind a scan, if all is covered up to its last key; otherwise the rest of it is left. */
        boolean takeCovered(int upTo) {
            key = upTo;
            if (upTo < behind) {
                return false;
            }
            at++;
            return true;
        }
    }

    /** The text, its parser, and the programs that were loaded; instructions are rows of four numbers. */
    private static final class Text {
        static final int OVER = 0, WORD = 1, NUMBER = 2, SIGN = 3, BAD = 4;

        final byte[] bytes = new byte[BYTES];
        int length;

        /** The token that is looked at: its kind, its bytes, and the value of a number. */
        int token, start, end, number;
        int errorKind, errorPlace;

        /** The code of the programs in the text, where each one begins, and their names. */
        final int[] rows = new int[4 * (BYTES + 2)];
        final int[] begins = new int[PROGRAMS + 1];
        final long[] names = new long[PROGRAMS + 1];
        int rowCount, parsed;

        /** The programs of the house; their names are ahead of those in the text. */
        int programCount;
        final int[][] codes = new int[PROGRAMS][];

        static int bytesIn(long it) {
            int many = 0;
            for (int shift = 56; shift >= 0; shift -= 8) {
                many += (it >>> shift & 255) != 0 ? 1 : 0;
            }
            return many;
        }

        void addBytes(long it) {
            for (int shift = 56; shift >= 0; shift -= 8) {
                if ((it >>> shift & 255) != 0) {
                    addByte((int) (it >>> shift & 255));
                }
            }
        }

        void addByte(int it) {
            if (length < BYTES) {
                bytes[length] = (byte) it;
                length++;
            }
        }

        int byteAt(int place) {
            return place >= 0 && place < length && place < BYTES ? bytes[place] & 255 : 0;
        }

        static boolean isLetter(int it) {
            return it >= 'a' && it <= 'z';
        }

        static boolean isDigit(int it) {
            return it >= '0' && it <= '9';
        }

        static boolean isSign(int it) {
            switch (it) {
                case '{': case '}': case '(': case ')': case ';': case ',': case '=':
                case '<': case '>': case '+': case '-': case '*': case '/': case '%':
                    return true;
                default:
                    return false;
            }
        }

        /** Looks at the next token. All ahead of it can stand there, so a bad one has the first error. */
        void goToNext() {
            start = end;
            while (start < length && (byteAt(start) == 32 || byteAt(start) == 10)) {
                start++;
            }
            end = Math.min(start + 1, length);
            if (start >= length) {
                token = OVER;
            } else if (isLetter(byteAt(start))) {
                token = WORD;
                while (end < length && isLetter(byteAt(end))) {
                    end++;
                }
            } else if (isDigit(byteAt(start))) {
                number = byteAt(start) - '0';
                while (end < length && isDigit(byteAt(end))) {
                    number = Math.min(10 * number + byteAt(end) - '0', MAX_NUMBER + 1);
                    end++;
                }
                token = number > MAX_NUMBER ? BAD : NUMBER;
            } else {
                token = isSign(byteAt(start)) ? SIGN : BAD;
            }
            if (token == BAD) {
                fail(1);
            }
        }

        /** Notes an error of the token, unless there was one; always false. */
        boolean fail(int kind) {
            if (errorKind == 0) {
                errorKind = kind;
                errorPlace = start;
            }
            return false;
        }

        boolean isSignNow(int sign) {
            return token == SIGN && byteAt(start) == sign;
        }

        boolean isWordNow(String word) {
            if (token != WORD || end - start != word.length()) {
                return false;
            }
            for (int i = 0; i < word.length(); i++) {
                if (byteAt(start + i) != word.charAt(i)) {
                    return false;
                }
            }
            return true;
        }

        boolean isReserved() {
            boolean isHead = isWordNow("tx") || isWordNow("get") || isWordNow("has") || isWordNow("put") || isWordNow("del");
            boolean isBlock = isWordNow("scan") || isWordNow("if") || isWordNow("else") || isWordNow("while");
            return isHead || isBlock || isWordNow("give") || isWordNow("fail");
        }

        boolean takeSign(int sign) {
            if (!isSignNow(sign)) {
                return fail(2);
            }
            goToNext();
            return true;
        }

        /** Takes a word of one letter; returns the number of the variable, or NONE. */
        int takeVariable() {
            if (token != WORD || end - start != 1) {
                fail(2);
                return NONE;
            }
            int variable = byteAt(start) - 'a';
            goToNext();
            return variable;
        }

        /** Puts an instruction behind the code; returns its number in its program. */
        int put(int act, int x) {
            int row = 4 * rowCount;
            if (row + 3 >= rows.length) {
                return 0;
            }
            rows[row] = act;
            rows[row + 1] = x;
            rows[row + 2] = 0;
            rows[row + 3] = 0;
            rowCount++;
            return here() - 1;
        }

        /** The number that the next instruction of the program has. */
        int here() {
            return rowCount - (parsed <= PROGRAMS ? begins[parsed] : 0);
        }

        void setOperand(int instruction, int which, int it) {
            int place = 4 * (begins[parsed <= PROGRAMS ? parsed : 0] + instruction) + which;
            if (place >= 0 && place < rows.length) {
                rows[place] = it;
            }
        }

        /** Looks for the first error, and makes the code. */
        void parse() {
            errorKind = 0;
            errorPlace = NONE;
            rowCount = 0;
            parsed = 0;
            end = 0;
            goToNext();
            for (int i = 0; i <= BYTES && token != OVER && errorKind == 0; i++) {
                parseProgram();
            }
        }

        private void parseProgram() {
            if (!isWordNow("tx")) {
                fail(2);
                return;
            }
            if (programCount + parsed >= PROGRAMS) {
                fail(5);
                return;
            }
            goToNext();
            long name = nameNow();
            if (name == 0) {
                fail(2);
                return;
            }
            if (isNameTaken(name)) {
                fail(4);
                return;
            }
            goToNext();
            names[programCount + parsed] = name;
            begins[parsed] = rowCount;
            if (parseBlock(0, false)) {
                put(DO_END, 0);
                parsed++;
                begins[parsed] = rowCount;
            }
        }

        /** The NAME that is looked at, 5 bits a letter; 0 if it is none. */
        long nameNow() {
            if (token != WORD || end - start < 2 || end - start > 8 || isReserved()) {
                return 0;
            }
            long name = 0;
            for (int i = start; i < end; i++) {
                name = 32 * name + byteAt(i) - 'a' + 1;
            }
            return name;
        }

        boolean isNameTaken(long name) {
            for (int i = 0; i < programCount + parsed && i < names.length; i++) {
                if (names[i] == name) {
                    return true;
                }
            }
            return false;
        }

        private boolean parseBlock(int deep, boolean inScan) {
            if (!isSignNow('{')) {
                return fail(2);
            }
            if (deep >= MAX_DEEP) {
                return fail(3);
            }
            goToNext();
            for (int i = 0; i <= BYTES && !isSignNow('}'); i++) {
                if (!parseStatement(deep + 1, inScan)) {
                    return false;
                }
            }
            return takeSign('}');
        }

        private boolean parseStatement(int deep, boolean inScan) {
            int step = put(DO_STEP, 0);
            if (isWordNow("scan") && !inScan) {
                goToNext();
                return parseScan(deep);
            }
            if (isWordNow("if")) {
                goToNext();
                return parseIf(deep, inScan);
            }
            if (isWordNow("while")) {
                goToNext();
                return parseWhile(deep, inScan, step);
            }
            if (isWordNow("get") || isWordNow("has")) {
                int act = isWordNow("get") ? DO_GET : DO_HAS;
                goToNext();
                int variable = takeVariable();
                return variable != NONE && parseExpression(deep) && finish(act, variable);
            }
            if (isWordNow("put")) {
                goToNext();
                return parseExpression(deep) && takeSign(',') && parseExpression(deep) && finish(DO_PUT, 0);
            }
            if (isWordNow("del") || isWordNow("give")) {
                int act = isWordNow("del") ? DO_DEL : DO_GIVE;
                goToNext();
                return parseExpression(deep) && finish(act, 0);
            }
            if (isWordNow("fail")) {
                goToNext();
                return finish(DO_FAIL, 0);
            }
            int variable = takeVariable();
            return variable != NONE && takeSign('=') && parseExpression(deep) && finish(DO_STORE, variable);
        }

        /** The instruction of a statement, and its last sign. */
        private boolean finish(int act, int x) {
            put(act, x);
            return takeSign(';');
        }

        private boolean parseScan(int deep) {
            int keyVariable = takeVariable();
            if (keyVariable == NONE) {
                return false;
            }
            if (token == WORD && end - start == 1 && byteAt(start) - 'a' == keyVariable) {
                return fail(4);
            }
            int valueVariable = takeVariable();
            if (valueVariable == NONE || !parseExpression(deep) || !takeSign(',') || !parseExpression(deep)) {
                return false;
            }
            put(DO_SCAN, 0);
            int next = put(DO_NEXT, keyVariable);
            setOperand(next, 2, valueVariable);
            put(DO_STEP, 0);
            if (!parseBlock(deep, true)) {
                return false;
            }
            put(DO_JUMP, next);
            setOperand(next, 3, here());
            return true;
        }

        private boolean parseIf(int deep, boolean inScan) {
            if (!parseExpression(deep)) {
                return false;
            }
            int unless = put(DO_UNLESS, 0);
            if (!parseBlock(deep, inScan)) {
                return false;
            }
            if (isWordNow("else")) {
                goToNext();
                int jump = put(DO_JUMP, 0);
                setOperand(unless, 1, here());
                if (!parseBlock(deep, inScan)) {
                    return false;
                }
                setOperand(jump, 1, here());
            } else {
                setOperand(unless, 1, here());
            }
            return true;
        }

        private boolean parseWhile(int deep, boolean inScan, int step) {
            if (!parseExpression(deep)) {
                return false;
            }
            int unless = put(DO_UNLESS, 0);
            if (!parseBlock(deep, inScan)) {
                return false;
            }
            put(DO_JUMP, step);
            setOperand(unless, 1, here());
            return true;
        }

        private boolean parseExpression(int deep) {
            if (!parseSum(deep)) {
                return false;
            }
            int act = isSignNow('<') ? DO_LESS : isSignNow('>') ? DO_MORE : isSignNow('=') ? DO_SAME : NONE;
            if (act == NONE) {
                return true;
            }
            goToNext();
            if (!parseSum(deep)) {
                return false;
            }
            put(act, 0);
            return true;
        }

        private boolean parseSum(int deep) {
            if (!parseTerm(deep)) {
                return false;
            }
            for (int i = 0; i <= BYTES; i++) {
                int act = isSignNow('+') ? DO_ADD : isSignNow('-') ? DO_SUB : NONE;
                if (act == NONE) {
                    return true;
                }
                goToNext();
                if (!parseTerm(deep)) {
                    return false;
                }
                put(act, 0);
            }
            return true;
        }

        private boolean parseTerm(int deep) {
            if (!parseFactor(deep)) {
                return false;
            }
            for (int i = 0; i <= BYTES; i++) {
                int act = isSignNow('*') ? DO_MUL : isSignNow('/') ? DO_DIV : isSignNow('%') ? DO_REM : NONE;
                if (act == NONE) {
                    return true;
                }
                goToNext();
                if (!parseFactor(deep)) {
                    return false;
                }
                put(act, 0);
            }
            return true;
        }

        private boolean parseFactor(int deep) {
            if (token == NUMBER) {
                put(DO_PUSH, number);
                goToNext();
                return true;
            }
            boolean isMinus = isSignNow('-');
            if (!isMinus && !isSignNow('(')) {
                int variable = takeVariable();
                if (variable != NONE) {
                    put(DO_LOAD, variable);
                }
                return variable != NONE;
            }
            if (deep >= MAX_DEEP) {
                return fail(3);
            }
            goToNext();
            if (!isMinus) {
                return parseExpression(deep + 1) && takeSign(')');
            }
            if (!parseFactor(deep + 1)) {
                return false;
            }
            put(DO_NEG, 0);
            return true;
        }

        /** Puts the programs of the text, which has no error, into the house. */
        void keepPrograms() {
            int fresh = parsed;
            for (int i = 0; i < fresh && programCount < PROGRAMS; i++) {
                int[] code = new int[4 * Math.max(0, begins[i + 1] - begins[i])];
                System.arraycopy(rows, 4 * begins[i], code, 0, code.length);
                codes[programCount] = code;
                programCount++;
            }
            parsed = 0;
        }
    }
}
