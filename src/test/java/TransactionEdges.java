/** The edges that the sections 7 and 9 name: transactions, what can be told, reads at any copy, and feeds. */
public final class TransactionEdges extends Checks {
    private static final int OPEN = Rangehold.OPEN, DOOMED = Rangehold.DOOMED, ENDING = Rangehold.ENDING, LOST = Rangehold.LOST;
    private static final int COMMITTED = Rangehold.COMMITTED, ABORTED = Rangehold.ABORTED;
    private static final int WAITS = Rangehold.WAITS, LATE = Rangehold.LATE, WRONG = Rangehold.WRONG, GONE = Rangehold.GONE, UNKNOWN = Rangehold.UNKNOWN;
    private static final int NOT_LEADER = Rangehold.NOT_LEADER, NO_COPY = Rangehold.NO_COPY, FROZEN = Rangehold.FROZEN;

    private static long moment(Rangehold x, int transaction) {
        return x.transactionAt(transaction, 2);
    }

    private static long state(Rangehold x, int transaction) {
        return x.transactionAt(transaction, 0);
    }

    private static long value(Rangehold x) {
        return x.askAt(x.count(7) - 1, 4);
    }

    private static boolean isRefused(Rangehold x, String name, long... numbers) {
        return Calls.answer(x, name, numbers).equals("IllegalStateException");
    }

    private static long look(Rangehold x, long moment, int key, int range, int node) {
        return answer(x, x.asOf(0, Rangehold.LOOK, moment, key, range, node));
    }

    // section 7

    private static void operations() {
        Rangehold x = three();
        int it = x.begin(0);
        is("a new one is OPEN", state(x, it), OPEN);
        is("without an anchor key", x.transactionAt(it, 3), NONE);
        is("without an ask", x.transactionAt(it, 7), NONE);
        is("without operations", x.transactionAt(it, 4), 0);
        is("a READ that is not done", answer(x, x.read(it, 5, 0, 1)), NOT_LEADER);
        is("the anchor key is that of a WRITE", x.transactionAt(it, 3), NONE);
        int write = x.write(it, 0, 1, 0, 2);
        is("as it is asked", x.transactionAt(it, 3), 0);
        is("a WRITE that is not done", answer(x, write), NOT_LEADER);
        is("its anchor key stays", x.transactionAt(it, 3), 0);
        is("a WRITE of another key", answer(x, x.write(it, 31, -1, 0, 0)), OK);
        is("the anchor key is that of the first one", x.transactionAt(it, 3), 0);
        is("a SCAN", answer(x, x.scan(it, 3, 32, 0, 0)), OK);
        is("a READ", answer(x, x.read(it, 31, 0, 0)), OK);
        is("operations that were done", x.transactionAt(it, 4), 3);
        long[][] due = {{Rangehold.WRITE, 31, -1, 3}, {Rangehold.SCAN, 3, 1, 4}, {Rangehold.READ, 31, -1, 5}};
        for (int i = 0; i < due.length; i++) {
            for (int what = 0; what < 4; what++) {
                is("operation " + i + ": " + what, x.operationAt(it, i, what), due[i][what]);
            }
        }
        int other = x.begin(0);
        is("another one has its own numbers", answer(x, x.read(other, 1, 0, 0)), OK);
        is("from 1 on", x.operationAt(other, 0, 3), 1);
        is("END without a key that was written there", answer(x, x.end(it, true, 0, 0)), OK);
        is("what was not done is not left", x.valueAt(0, Long.MAX_VALUE), ABSENT);
        is("what was done is", x.valueAt(31, Long.MAX_VALUE), -1);
    }

    private static void values() {
        long[] values = {Integer.MIN_VALUE, Integer.MAX_VALUE, 0, -1, ABSENT};
        Rangehold x = alone();
        int it = x.begin(0);
        for (int i = 0; i < values.length; i++) {
            is("a WRITE of " + values[i], answer(x, x.write(it, i, values[i], 0, 0)), OK);
            is("its value", x.operationAt(it, 2 * i, 2), values[i]);
            is("a READ", answer(x, x.read(it, i, 0, 0)), OK);
            is("of " + values[i], value(x), values[i]);
        }
        is("END", answer(x, x.end(it, true, 0, 0)), OK);
        for (int i = 0; i < values.length; i++) {
            is("held", x.heldAt(i), values[i]);
            resolveAll(x, it, 0, i);
            is("held by a version", x.heldAt(i), values[i]);
            is("left", x.valueAt(i, Long.MAX_VALUE), values[i]);
        }
    }

    /** LATE and GONE doom; no other answer does. */
    private static void dooms() {
        Rangehold x = three();
        x.addNode(0);
        int holder = x.begin(0);
        is("an intent", answer(x, x.write(holder, 9, 1, 0, 0)), OK);
        int it = x.begin(0);
        is("WAITS", answer(x, x.read(it, 9, 0, 0)), WAITS);
        is("NO_COPY", answer(x, x.write(it, 8, 1, 0, 3)), NO_COPY);
        is("NOT_LEADER", answer(x, x.scan(it, 0, 9, 0, 1)), NOT_LEADER);
        is("SPLIT", answer(x, x.split(0, 16, 0, 0)), OK);
        is("WRONG", answer(x, x.read(it, 16, 0, 0)), WRONG);
        is("nothing was done", x.transactionAt(it, 4), 0);
        is("it is OPEN", state(x, it), OPEN);
        is("a READ is done", answer(x, x.read(it, 8, 0, 0)), OK);
        is("its number counts what was not done", x.operationAt(it, 0, 3), 5);
        int late = x.begin(0);
        is("a reading", answer(x, x.read(late, 7, 0, 0)), OK);
        is("LATE", answer(x, x.write(it, 7, 1, 0, 0)), LATE);
        is("dooms", state(x, it), DOOMED);
        is("FREEZE", answer(x, x.freeze(0, 1, 0, 0)), OK);
        int other = x.begin(0);
        is("FROZEN", answer(x, x.write(other, 1, 1, 0, 0)), FROZEN);
        is("does not doom", state(x, other), OPEN);
        is("a DOOMED one cannot be committed", isRefused(x, "end", it, 1, 0, 0), true);
        is("but aborted", x.transactionAt(it, 3), 8);
        is("FROZEN", answer(x, x.end(it, false, 0, 0)), FROZEN);
        is("it is ENDING still", state(x, it), ENDING);
    }

    private static void ends() {
        Rangehold x = three();
        int it = x.begin(0);
        int write = x.write(it, 3, 1, 0, 0);
        is("with an ask without an answer it cannot be ended", isRefused(x, "end", it, 0, 0, 0), true);
        is("a WRITE", answer(x, write), OK);
        int end = x.end(it, true, 0, 1);
        is("ENDING", state(x, it), ENDING);
        is("with an ask without an answer END cannot be asked again", isRefused(x, "end", it, 1, 0, 0), true);
        is("it cannot write", isRefused(x, "write", it, 3, 2, 0, 0), true);
        is("NOT_LEADER", answer(x, end), NOT_LEADER);
        is("ENDING still", state(x, it), ENDING);
        is("it cannot be ended otherwise", isRefused(x, "end", it, 0, 0, 0), true);
        is("it cannot read", isRefused(x, "read", it, 3, 0, 0), true);
        is("END can be asked again", answer(x, x.end(it, true, 0, 0)), OK);
        is("COMMITTED", state(x, it), COMMITTED);
        is("END is no operation", x.transactionAt(it, 4), 1);
        is("no more", isRefused(x, "end", it, 1, 0, 0), true);
        int gone = x.begin(0);
        is("a WRITE", answer(x, x.write(gone, 4, 1, 0, 0)), OK);
        is("END at no LEADER", answer(x, x.end(gone, false, 0, 2)), NOT_LEADER);
        is("it cannot be committed then", isRefused(x, "end", gone, 1, 0, 0), true);
        is("END again", answer(x, x.end(gone, false, 0, 0)), OK);
        is("ABORTED", state(x, gone), ABORTED);
        is("committed", x.transactionAt(it, 5), 1);
        is("not committed", x.transactionAt(gone, 5), 0);
        is("committed ones", x.count(5), 1);
    }

    private static void endsAtOnce() {
        Rangehold x = nodes(1);
        int[] its = {x.begin(0), x.begin(0), x.begin(0)};
        is("without an anchor key no ask is needed, and no range", x.end(its[0], true, 0, 0), NONE);
        is("COMMITTED at once", state(x, its[0]), COMMITTED);
        is("it is committed", x.transactionAt(its[0], 5), 1);
        is("also with numbers that are none", x.end(its[1], false, Integer.MIN_VALUE, Integer.MAX_VALUE), NONE);
        is("ABORTED at once", state(x, its[1]), ABORTED);
        is("it is not committed", x.transactionAt(its[1], 5), 0);
        x.stop(0, false);
        is("COMMITTED and ABORTED stay when the node stops", state(x, its[0]), COMMITTED);
        is("ABORTED", state(x, its[1]), ABORTED);
        is("OPEN is LOST", state(x, its[2]), LOST);
        x.start(0);
        is("a LOST one cannot be ended", isRefused(x, "end", its[2], 0, 0, 0), true);
        is("nor told", x.tell(its[2]), false);
        is("it is not committed", x.transactionAt(its[2], 5), 0);
    }

    /** A doomed one without an anchor key is ABORTED at once. */
    private static void endsDoomed() {
        Rangehold x = alone();
        int it = x.begin(0);
        is("CLOSE", close(x, moment(x, it) + 8, 0), OK);
        is("SWEEP", sweep(x, moment(x, it) + 8, 0), OK);
        is("GONE", answer(x, x.read(it, 1, 0, 0)), GONE);
        is("DOOMED", state(x, it), DOOMED);
        is("it cannot be committed", isRefused(x, "end", it, 1, 0, 0), true);
        is("but aborted", x.end(it, false, 9, 9), NONE);
        is("ABORTED", state(x, it), ABORTED);
        is("and told at once", x.tell(it), true);
    }

    private static void lost() {
        Rangehold x = three();
        int[] its = new int[5];
        for (int i = 0; i < its.length; i++) {
            its[i] = x.begin(1);
            is("a WRITE", answer(x, x.write(its[i], i, i, 0, 0)), OK);
        }
        is("a reading", answer(x, x.read(x.begin(1), 9, 0, 0)), OK);
        is("DOOMED", answer(x, x.write(its[1], 9, 1, 0, 0)), LATE);
        is("END", answer(x, x.end(its[3], true, 0, 0)), OK);
        is("END", answer(x, x.end(its[4], false, 0, 0)), OK);
        int other = x.begin(0);
        x.end(its[2], true, 0, 0);
        calmBut(x);
        is("agreed on", x.transactionAt(its[2], 5), 1);
        is("one ask is LOST", x.stop(1, false), 1);
        long[] due = {LOST, LOST, LOST, COMMITTED, ABORTED};
        for (int i = 0; i < due.length; i++) {
            is("the state of " + i, state(x, its[i]), due[i]);
        }
        is("that of another node", state(x, other), OPEN);
        is("committed, whatever its node knows", x.transactionAt(its[2], 5), 1);
        is("it has left what it wrote", x.valueAt(2, Long.MAX_VALUE), 2);
        x.start(1);
        calm(x);
        is("LOST for ever", state(x, its[2]), LOST);
        is("not told", x.tell(its[2]), false);
        is("PUSH of a LOST one tells its record", answer(x, x.push(0, its[2], 0, 0)), OK);
        is("COMMITTED", value(x), COMMITTED);
        is("errors", x.errors(), 0);
    }

    private static void calmBut(Rangehold x) {
        for (int i = 0; i < x.count(9); i++) {
            if (x.messageAt(i, 0) != Rangehold.ANSWER) {
                x.deliver(i);
                i = -1;
            }
        }
    }

    private static void tells() {
        Rangehold x = alone();
        int first = x.begin(0);
        int second = x.begin(0);
        x.end(first, true, 0, 0);
        x.end(second, true, 0, 0);
        is("k", moment(x, first), 8 * 1200);
        x.pass(6);
        is("100 * (15 - 3) is not above 1200", x.tell(first), false);
        is("not told", x.transactionAt(first, 6), 0);
        x.setClock(0, 1);
        is("100 * (16 - 3) is", x.tell(first), true);
        is("told", x.transactionAt(first, 6), 1);
        x.setClock(0, 0);
        is("what was told is told", x.tell(first), true);
        is("1201 is not told", x.tell(second), false);
        x.setClock(0, 3);
        x.stop(0, false);
        is("nor with its node down", x.tell(second), false);
        x.start(0);
        x.pass(1);
        is("but with its node up", x.tell(second), true);
        is("two were told", x.count(6), 2);
        int gone = x.begin(0);
        x.end(gone, false, 0, 0);
        x.stop(0, false);
        is("an ABORTED one with its node down", x.tell(gone), false);
        x.start(0);
        is("is told at once with its node up", x.tell(gone), true);
        int open = x.begin(0);
        x.pass(20);
        is("an OPEN one is not", x.tell(open), false);
        is("a WRITE", answer(x, x.write(open, 1, 1, 0, 0)), OK);
        x.end(open, true, 0, 0);
        x.pass(20);
        is("nor one that is ENDING", x.tell(open), false);
    }

    /** The k of a moment decides, not the moment. */
    private static void tellsByK() {
        for (int node = 0; node < 2; node++) {
            Rangehold x = nodes(2);
            x.pass(9);
            int it = x.begin(node);
            x.end(it, true, 0, 0);
            x.pass(6);
            is("k 1200 of node " + node, x.tell(it), false);
            x.pass(1);
            is("a tick later", x.tell(it), true);
        }
    }

    private static void resolvers() {
        Rangehold x = three();
        int it = x.begin(0);
        is("a WRITE", answer(x, x.write(it, 3, 30, 0, 0)), OK);
        is("PUSH that WAITS", answer(x, x.push(1, it, 0, 0)), WAITS);
        is("tells nothing", isRefused(x, "resolve", 1, it, 3, 0, 0), true);
        is("END at no LEADER", answer(x, x.end(it, true, 0, 1)), NOT_LEADER);
        is("tells nothing", isRefused(x, "resolve", 0, it, 3, 0, 0), true);
        is("END", answer(x, x.end(it, true, 0, 0)), OK);
        is("tells its node", isRefused(x, "resolve", 0, it, 33 - 30, 0, 1), false);
        is("not another one", isRefused(x, "resolve", 1, it, 3, 0, 0), true);
        is("PUSH", answer(x, x.push(1, it, 0, 0)), OK);
        x.stop(1, true);
        x.start(1);
        is("tells the node that asked, for ever", answer(x, x.resolve(1, it, 3, 0, 0)), OK);
        is("a version", x.versionAt(0, 3, 0, true), 30);
        is("not the third one", isRefused(x, "resolve", 2, it, 3, 0, 0), true);
    }

    /** Two moments of one k, of which one is 1 more: it sees the other one. */
    private static void nextMoments() {
        Rangehold x = with(nodes(2), "tx ab{get x 5;put 6,x;give x;}");
        x.found(1);
        x.pass(9);
        int it = x.begin(0);
        is("a WRITE", answer(x, x.write(it, 5, 50, 0, 0)), OK);
        is("END", answer(x, x.end(it, true, 0, 0)), OK);
        resolveAll(x, it, 0, 5);
        int next = x.begin(1);
        is("its moment is 1 more", moment(x, next), moment(x, it) + 1);
        is("a READ", answer(x, x.read(next, 5, 0, 0)), OK);
        is("sees it", value(x), 50);
        is("a SCAN", answer(x, x.scan(next, 5, 6, 0, 0)), OK);
        x.end(next, true, 0, 0);
        is("agrees", x.agrees(), true);
        is("as of its moment", x.valueAt(5, moment(x, it)), 50);
        is("not as of the moment ahead", x.valueAt(5, moment(x, it) - 1), ABSENT);
        int last = x.begin(0);
        is("another one", answer(x, x.write(last, 5, 51, 0, 0)), OK);
        is("END", answer(x, x.end(last, true, 0, 0)), OK);
        x.run(1, 0, 0, 0);
        is("a job's moment is 1 more", moment(x, (int) x.jobAt(0, 6)), moment(x, last) + 1);
        x.settle(40);
        is("it sees the other one", x.jobAt(0, 4), 51);
        is("agrees", x.agrees(), true);
        is("errors", x.errors(), 0);
    }

    // section 9

    private static void looks() {
        Rangehold x = three();
        int first = settled(x, 0, 5, 50);
        int second = settled(x, 0, 5, 51);
        int open = x.begin(0);
        is("an intent", answer(x, x.write(open, 6, 60, 0, 0)), OK);
        long closed = moment(x, open) + 1;
        is("nothing is closed at first", look(x, 1, 9, 0, 0), UNKNOWN);
        is("but 0", look(x, 0, 9, 0, 0), OK);
        is("CLOSE", close(x, closed, 0), OK);
        is("above the closed moment", look(x, closed + 1, 5, 0, 0), UNKNOWN);
        is("without a value", value(x), 0);
        is("at the closed moment", look(x, closed, 5, 0, 0), OK);
        is("the version with the greatest moment", value(x), 51);
        is("ahead of it", look(x, moment(x, second) - 1, 5, 0, 0), OK);
        is("the older one", value(x), 50);
        is("ahead of both", look(x, moment(x, first) - 1, 5, 0, 0), OK);
        is("none", value(x), ABSENT);
        is("at the moment of an intent", look(x, moment(x, open), 6, 0, 0), UNKNOWN);
        is("ahead of it", look(x, moment(x, open) - 1, 6, 0, 0), OK);
        is("none", value(x), ABSENT);
        is("a LOOK reads nothing", x.intentAt(0, 5, 3), closed + 1);
        is("nor comes into a log", x.rangeAt(0, 3), x.copyAt(0, 0, 3));
        is("SWEEP", sweep(x, moment(x, second), 0), OK);
        is("below the floor", look(x, moment(x, second) - 1, 5, 0, 0), GONE);
        is("with the floor", value(x), moment(x, second));
        is("at the floor", look(x, moment(x, second), 5, 0, 0), OK);
        is("SPLIT", answer(x, x.split(0, 16, 0, 0)), OK);
        is("WRONG ahead of GONE", look(x, 0, 16, 0, 0), WRONG);
        is("WRONG ahead of UNKNOWN", look(x, closed + 1, 16, 0, 0), WRONG);
        is("the last key: GONE", look(x, 0, 15, 0, 0), GONE);
        is("the last key: UNKNOWN", look(x, closed + 1, 15, 0, 0), UNKNOWN);
        is("FREEZE", answer(x, x.freeze(0, 1, 0, 0)), OK);
        is("frozen does not matter", look(x, closed, 5, 0, 0), OK);
    }

    private static void looksAnywhere() {
        Rangehold x = three();
        x.addNode(0);
        settled(x, 0, 5, 50);
        is("CLOSE", close(x, 800 * 15, 0), OK);
        is("at a FOLLOWER, by its own state: nothing closed so far", look(x, 800 * 15, 5, 0, 1), UNKNOWN);
        x.pass(3);
        calm(x);
        is("later it is", look(x, 800 * 15, 5, 0, 1), OK);
        is("its value", value(x), 50);
        is("at a node without a copy", look(x, 0, 5, 0, 3), NO_COPY);
        x.stop(1, false);
        x.start(1);
        is("a started copy has the state of its base", look(x, 800 * 15, 5, 0, 1), UNKNOWN);
        is("as of 0", look(x, 0, 5, 0, 1), OK);
        is("reads and LOOKs that were answered OK", x.count(14), 2);
    }

    private static void resolvedMoments() {
        Rangehold x = alone();
        int first = x.begin(0);
        int second = x.begin(0);
        is("at first", x.resolved(0, 0), 0);
        is("an intent", answer(x, x.write(second, 5, 1, 0, 0)), OK);
        is("with an intent above the closed moment", x.resolved(0, 0), 0);
        is("CLOSE", close(x, moment(x, second) - 2, 0), OK);
        is("below 1 less than its moment", x.resolved(0, 0), moment(x, second) - 2);
        is("an intent of a lesser moment", answer(x, x.write(first, 31, 1, 0, 0)), LATE);
        is("CLOSE", close(x, moment(x, second) - 1, 0), OK);
        is("at 1 less", x.resolved(0, 0), moment(x, second) - 1);
        is("CLOSE", close(x, moment(x, second), 0), OK);
        is("not more", x.resolved(0, 0), moment(x, second) - 1);
        Rangehold y = alone();
        first = y.begin(0);
        second = y.begin(0);
        is("an intent", answer(y, y.write(second, 0, 1, 0, 0)), OK);
        is("an intent of a lesser moment", answer(y, y.write(first, 31, 1, 0, 0)), OK);
        is("CLOSE", close(y, 800 * 19, 0), OK);
        is("1 less than the least one", y.resolved(0, 0), moment(y, first) - 1);
        is("END", answer(y, y.end(first, true, 0, 0)), OK);
        is("an intent is one till it is resolved", y.resolved(0, 0), moment(y, first) - 1);
        resolveAll(y, first, 0, 31);
        is("then it is the other one", y.resolved(0, 0), moment(y, second) - 1);
        is("END", answer(y, y.end(second, false, 0, 0)), OK);
        resolveAll(y, second, 0, 0);
        is("without intents the closed moment", y.resolved(0, 0), 800 * 19);
    }

    private static long feed(Rangehold x, long since, int index, int what) {
        return x.feedAt(0, 0, since, index, what);
    }

    private static void feeds() {
        Rangehold x = alone();
        long first = moment(x, settled(x, 0, 31, 310, 0, 1));
        long second = moment(x, settled(x, 0, 5, 50));
        int open = x.begin(0);
        is("an intent", answer(x, x.write(open, 6, 60, 0, 0)), OK);
        long third = moment(x, settled(x, 0, 5, ABSENT));
        is("nothing up to 0", feed(x, 0, 0, 0), 0);
        is("CLOSE", close(x, first - 1, 0), OK);
        is("not up to the moment ahead", feed(x, 0, 0, 0), 0);
        is("CLOSE", close(x, first, 0), OK);
        is("up to its moment", feed(x, 0, 0, 0), 2);
        is("CLOSE", close(x, third, 0), OK);
        is("up to the moment ahead of an intent", feed(x, 0, 0, 0), 3);
        long[][] due = {{first, 0, 1}, {first, 31, 310}, {second, 5, 50}};
        for (int i = 0; i < due.length; i++) {
            for (int what = 0; what < 3; what++) {
                is("version " + i + ": " + what, feed(x, 0, i, what + 1), due[i][what]);
            }
        }
        is("since a moment: those above it", feed(x, first, 0, 0), 1);
        is("the first one of these", feed(x, first, 0, 2), 5);
        is("since the moment ahead", feed(x, first - 1, 0, 0), 3);
        is("since the last one", feed(x, second, 0, 0), 0);
        is("since the greatest moment", feed(x, Long.MAX_VALUE, 0, 0), 0);
        is("END", answer(x, x.end(open, false, 0, 0)), OK);
        resolveAll(x, open, 0, 6);
        is("without the intent", feed(x, 0, 0, 0), 4);
        is("what tells that a key is not there", feed(x, 0, 3, 3), ABSENT);
        is("SWEEP", sweep(x, first, 0), OK);
        is("since the floor", feed(x, first, 0, 0), 2);
        is("since less there is no feed", isRefused(x, "feedAt", 0, 0, first - 1, 0, 0), true);
        is("SWEEP", sweep(x, third, 0), OK);
        is("since the floor", feed(x, third, 0, 0), 0);
        is("errors", x.errors(), 0);
    }

    /** The first key is as all others. */
    private static void feedsOfTheFirstKey() {
        Rangehold x = alone();
        int[] keys = {0, 31, 0, 0, 16};
        long[] moments = new long[keys.length];
        for (int i = 0; i < keys.length; i++) {
            moments[i] = moment(x, settled(x, 0, keys[i], i));
        }
        is("CLOSE", close(x, moments[4], 0), OK);
        is("versions", feed(x, 0, 0, 0), 5);
        for (int i = 0; i < keys.length; i++) {
            is("moment " + i, feed(x, 0, i, 1), moments[i]);
            is("key " + i, feed(x, 0, i, 2), keys[i]);
            is("value " + i, feed(x, 0, i, 3), i);
        }
        is("since the second one", feed(x, moments[1], 0, 2), 0);
        is("with its value", feed(x, moments[1], 0, 3), 2);
    }

    /** An answer that has no value tells none, whatever was answered ahead of it. */
    private static void answersWithoutValues() {
        Rangehold x = alone();
        x.addNode(0);
        settled(x, 0, 5, 77);
        int holder = x.begin(0);
        is("an intent", answer(x, x.write(holder, 6, 60, 0, 0)), OK);
        for (int i = 0; i < 4; i++) {
            is("a READ", answer(x, x.readAsOf(0, 800 * 15, 5, 0, 0)), OK);
            is("with a value", value(x), 77);
            is("NO_COPY", answer(x, x.readAsOf(0, 800 * 15, 5, 0, 1)), NO_COPY);
            is("without a value", value(x), 0);
            is("a READ that waits", answer(x, x.readAsOf(0, 800 * 15, 6, 0, 0)), WAITS);
            is("with a transaction", value(x), holder);
            is("CLOSE", close(x, 0, 0), OK);
            is("without a value", value(x), 0);
            is("a LOOK", answer(x, x.asOf(0, Rangehold.LOOK, 0, 5, 0, 0)), OK);
            is("of nothing", value(x), ABSENT);
            is("a LOOK above what is closed", answer(x, x.asOf(0, Rangehold.LOOK, 1, 5, 0, 0)), UNKNOWN);
            is("without a value", value(x), 0);
        }
    }

    /** What askAt() tells of each command. */
    private static void askRows() {
        Rangehold x = alone();
        int it = x.begin(0);
        int write = x.write(it, 7, 1, 0, 0);
        row(x, write, Rangehold.WRITE, 0, NONE, 0, it, 7);
        is("OK", answer(x, write), OK);
        row(x, write, Rangehold.WRITE, 0, OK, 0, it, 7);
        int read = x.read(it, 31, 0, 0);
        is("OK", answer(x, read), OK);
        row(x, read, Rangehold.READ, 0, OK, ABSENT, it, 31);
        int scan = x.scan(it, 0, 32, 0, 0);
        is("OK", answer(x, scan), OK);
        row(x, scan, Rangehold.SCAN, 0, OK, 1, it, 0);
        int push = x.push(0, it, 0, 0);
        is("WAITS", answer(x, push), WAITS);
        row(x, push, Rangehold.PUSH, 0, WAITS, it, it, NONE);
        int end = x.end(it, true, 0, 0);
        is("OK", answer(x, end), OK);
        row(x, end, Rangehold.END, 0, OK, COMMITTED, it, NONE);
        int resolve = x.resolve(0, it, 7, 0, 0);
        is("OK", answer(x, resolve), OK);
        row(x, resolve, Rangehold.RESOLVE, 0, OK, 0, it, 7);
        int asOf = x.readAsOf(0, 800 * 18, 7, 0, 0);
        is("OK", answer(x, asOf), OK);
        row(x, asOf, Rangehold.READ, 0, OK, 1, NONE, 7);
        int close = x.asOf(0, Rangehold.CLOSE, 800 * 18, 7, 0, 0);
        is("OK", answer(x, close), OK);
        row(x, close, Rangehold.CLOSE, 0, OK, 0, NONE, NONE);
        int sweep = x.asOf(0, Rangehold.SWEEP, 800 * 18, 7, 0, 0);
        is("OK", answer(x, sweep), OK);
        row(x, sweep, Rangehold.SWEEP, 0, OK, 0, NONE, NONE);
        int look = x.asOf(0, Rangehold.LOOK, 800 * 18, 7, 0, 0);
        is("OK", answer(x, look), OK);
        row(x, look, Rangehold.LOOK, 0, OK, 1, NONE, 7);
        int gone = x.asOf(0, Rangehold.LOOK, 800 * 18 - 1, 0, 0, 0);
        is("GONE", answer(x, gone), GONE);
        row(x, gone, Rangehold.LOOK, 0, GONE, 800 * 18, NONE, 0);
        int split = x.split(0, 16, 0, 0);
        row(x, split, Rangehold.SPLIT, 0, NONE, 0, NONE, 16);
        is("OK", answer(x, split), OK);
        row(x, split, Rangehold.SPLIT, 0, OK, 1, NONE, 16);
        x.pass(9);
        int freeze = x.freeze(0, 0, 1, 0);
        is("OK", answer(x, freeze), OK);
        row(x, freeze, Rangehold.FREEZE, 1, OK, 0, NONE, NONE);
        int refuse = x.settleJoin(0, Rangehold.REFUSE, freeze, 0);
        is("OK", answer(x, refuse), OK);
        row(x, refuse, Rangehold.REFUSE, 0, OK, 0, NONE, NONE);
        int join = x.settleJoin(0, Rangehold.JOIN, freeze, 0);
        is("REFUSED", answer(x, join), Rangehold.REFUSED);
        row(x, join, Rangehold.JOIN, 0, Rangehold.REFUSED, 0, NONE, NONE);
        int thaw = x.settleJoin(0, Rangehold.THAW, freeze, 0);
        is("OK", answer(x, thaw), OK);
        row(x, thaw, Rangehold.THAW, 1, OK, 0, NONE, NONE);
        int add = x.change(0, true, 0, 0, 0);
        is("OK", answer(x, add), OK);
        row(x, add, Rangehold.ADD, 0, OK, 0, NONE, NONE);
        int drop = x.change(0, false, 0, 0, 0);
        row(x, drop, Rangehold.DROP, 0, NONE, 0, NONE, NONE);
        x.stop(0, false);
        row(x, drop, Rangehold.DROP, 0, -5, 0, NONE, NONE);
    }

    private static void row(Rangehold x, int ask, long command, long range, long answer, long value, long transaction, long key) {
        long[] due = {command, 0, range, answer, value, transaction, key};
        for (int what = 0; what < due.length; what++) {
            is("askAt(" + ask + ", " + what + ")", x.askAt(ask, what), due[what]);
        }
    }

    private static void owners() {
        Rangehold x = new Rangehold();
        is("nobody owns ahead of a group", x.ownerOf(31), NONE);
        is("nothing is held", x.heldAt(0), ABSENT);
        x = alone();
        settled(x, 0, 15, 150, 16, 160);
        is("SPLIT", answer(x, x.split(0, 16, 0, 0)), OK);
        is("the last key", x.ownerOf(15), 0);
        is("the first key", x.ownerOf(16), 1);
        x.pass(9);
        int freeze = x.freeze(0, 0, 1, 0);
        is("FREEZE", answer(x, freeze), OK);
        is("a frozen one owns nothing", x.ownerOf(16), NONE);
        is("so nothing is held", x.heldAt(16), ABSENT);
        is("what was left stays", x.valueAt(16, Long.MAX_VALUE), 160);
        is("the other one owns its own", x.heldAt(15), 150);
        is("errors", x.errors(), 0);
        is("JOIN", answer(x, x.settleJoin(0, Rangehold.JOIN, freeze, 0)), OK);
        is("the least one that owns it", x.ownerOf(31), 0);
        is("held again", x.heldAt(16), 160);
    }

    private static void heldByMoments() {
        Rangehold x = alone();
        int early = x.begin(0);
        settled(x, 0, 5, 50);
        is("an intent that is not committed", answer(x, x.write(x.begin(0), 5, 51, 0, 0)), OK);
        is("is not held", x.heldAt(5), 50);
        is("a WRITE ahead of what was read", answer(x, x.write(early, 6, 60, 0, 0)), OK);
        is("an intent", x.heldAt(6), ABSENT);
        is("END", answer(x, x.end(early, true, 0, 0)), OK);
        is("is held by its record", x.heldAt(6), 60);
        long moment = moment(x, early);
        is("left as of the moment", x.valueAt(6, moment), 60);
        is("not as of the moment ahead", x.valueAt(6, moment - 1), ABSENT);
        is("nor as of the least one", x.valueAt(6, Long.MIN_VALUE), ABSENT);
        is("errors", x.errors(), 0);
    }

    public static void main(String[] args) {
        operations();
        values();
        dooms();
        ends();
        endsAtOnce();
        endsDoomed();
        lost();
        tells();
        tellsByK();
        resolvers();
        nextMoments();
        looks();
        looksAnywhere();
        resolvedMoments();
        feeds();
        feedsOfTheFirstKey();
        answersWithoutValues();
        askRows();
        owners();
        heldByMoments();
        finish("TransactionEdges");
    }
}
