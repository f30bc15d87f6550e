import java.util.ArrayList;
import java.util.Arrays;
import java.util.List;

/**
 * For each call of the face: each argument that is just out of its range, on both sides, and two of them together, so that the
 * exception that is listed first is thrown, and nothing has changed; and each state in which a call throws, alone and together
 * with such arguments (section 1, and "Throws" of each promise).
 */
public final class CallEdges extends Checks {
    /** A parameter: a value that is taken, what is thrown by one out of its range, and such values. */
    private static final class Part {
        final long good;
        final Class<?> thrown;
        final long[] bad;

        Part(long good, Class<?> thrown, long... bad) {
            this.good = good;
            this.thrown = thrown;
            this.bad = bad;
        }
    }

    private static final long MOMENT_MAX = Long.MAX_VALUE, MOMENT_MIN = Long.MIN_VALUE;
    private static Rangehold house;

    /** Numbers from 0 on, of which there are so many. */
    private static Part number(long good, int many) {
        return new Part(good, NO_SUCH_NUMBER, -1, many, Integer.MIN_VALUE, Integer.MAX_VALUE);
    }

    private static Part value(long good, long first, long last) {
        return new Part(good, BAD_ARGUMENT, first - 1, last + 1, Integer.MIN_VALUE, Integer.MAX_VALUE);
    }

    private static Part moment(long good) {
        return new Part(good, BAD_ARGUMENT, -1, 800L * (house.count(0) + 10) + 1, MOMENT_MIN, MOMENT_MAX);
    }

    private static Part any(long good) {
        return new Part(good, null);
    }

    private static Part node(long good) {
        return number(good, house.count(1));
    }

    private static Part range(long good) {
        Part it = number(good, house.count(3));
        return new Part(good, it.thrown, -1, house.count(3), 7, 8, Integer.MIN_VALUE, Integer.MAX_VALUE);
    }

    private static Part transaction(long good) {
        return number(good, house.count(4));
    }

    private static Part ask(long good) {
        return number(good, house.count(7));
    }

    private static Part key(long good) {
        return value(good, 0, 31);
    }

    private static Part what(int last) {
        return value(last, 0, last);
    }

    private static long[] goods(Part... parts) {
        long[] numbers = new long[parts.length];
        for (int i = 0; i < parts.length; i++) {
            numbers[i] = parts[i].good;
        }
        return numbers;
    }

    private static int rank(String name, Class<?> thrown) {
        return Arrays.asList(Calls.FACE.get(name).getExceptionTypes()).indexOf(thrown);
    }

    private static void throwsNow(String name, Class<?> due, long... numbers) {
        Class<?> got = thrownBy(() -> Calls.make(house, name, numbers));
        is(name + Arrays.toString(numbers) + " threw " + got + " where " + due + " is due", got == due, true);
    }

    /** Each part out of its range, alone and together with another one; the class is what the state throws, or null. */
    private static void refuses(String name, Class<?> byState, Part... parts) {
        String before = Snapshot.of(house);
        for (int i = 0; i < parts.length; i++) {
            for (long bad : parts[i].bad) {
                long[] numbers = goods(parts);
                numbers[i] = bad;
                throwsNow(name, first(name, byState, parts[i].thrown), numbers);
                for (int j = i + 1; j < parts.length && bad == parts[i].bad[0]; j++) {
                    for (int k = 0; k < parts[j].bad.length && k < 2; k++) {
                        numbers[j] = parts[j].bad[k];
                        throwsNow(name, first(name, byState, first(name, parts[i].thrown, parts[j].thrown)), numbers);
                    }
                    numbers[j] = parts[j].good;
                }
            }
        }
        if (byState != null) {
            throwsNow(name, byState, goods(parts));
        }
        unchanged(name, house, before);
    }

    /** The one of two exceptions (or null) that is listed first. */
    private static Class<?> first(String name, Class<?> one, Class<?> other) {
        if (one == null || other == null) {
            return one == null ? other : one;
        }
        return rank(name, one) <= rank(name, other) ? one : other;
    }

    /** As refuses(), and what is told as good is taken. */
    private static void takes(String name, Part... parts) {
        refuses(name, null, parts);
        throwsNow(name, null, goods(parts));
    }

    /**
     * Two nodes, node 0 leads the ranges 0 (keys 0 to 15) and 1. Transaction 0 is committed (key 4, ask 2 is its END), 1 did a SCAN
     * (ask 4), 2 wrote the key 3 (ask 5). Ask 6 is a FREEZE of range 1, answered OK, 7 its REFUSE, 8 has no answer, 9 is a CLOSE.
     * There are a program, a job that is DONE, a text, and two messages in the net.
     */
    private static Rangehold stage() {
        Rangehold x = nodes(2);
        x.found(1);
        x.pass(9);
        is("SPLIT", answer(x, x.split(0, 16, 0, 0)), OK);
        x.pass(9);
        int first = settled(x, 0, 4, 40);
        is("SCAN", answer(x, x.scan(x.begin(0), 0, 16, 0, 0)), OK);
        is("WRITE", answer(x, x.write(x.begin(0), 3, 33, 0, 0)), OK);
        int freeze = x.freeze(0, 0, 1, 0);
        is("FREEZE", answer(x, freeze), OK);
        is("REFUSE", answer(x, x.settleJoin(0, Rangehold.REFUSE, freeze, 0)), OK);
        x.readAsOf(1, 0, 0, 0, 0);
        x.lose(0);
        is("CLOSE", close(x, x.transactionAt(first, 2), 0), OK);
        with(x, "tx ab{give a;}");
        x.run(0, 0, 7, 0);
        x.pass(10);
        is("DONE", x.jobAt(0, 0), Rangehold.DONE);
        put(x, "tx");
        x.readAsOf(0, 0, 4, 0, 1);
        x.readAsOf(0, 0, 4, 0, 1);
        return x;
    }

    private static void nodesAndTransactions() {
        house = stage();
        takes("addNode", new Part(3, BAD_ARGUMENT, -4, 4, Integer.MIN_VALUE, Integer.MAX_VALUE));
        takes("setClock", node(1), new Part(-3, BAD_ARGUMENT, -4, 4, Integer.MIN_VALUE, Integer.MAX_VALUE));
        takes("compact", node(0), range(1));
        takes("nodeAt", node(2), what(4));
        takes("begin", node(2));
        takes("read", transaction(1), key(31), range(1), node(2));
        house = stage();
        takes("write", transaction(1), key(31), new Part(Integer.MIN_VALUE, BAD_ARGUMENT, -1L << 32, -1 - (1L << 31), 1L << 31, MOMENT_MAX, MOMENT_MIN + 1), range(1), node(1));
        house = stage();
        takes("scan", transaction(1), key(0), new Part(32, BAD_ARGUMENT, 0, 33, -1, Integer.MIN_VALUE, Integer.MAX_VALUE), range(1), node(1));
        takes("scanAt", ask(4), new Part(0, NO_ELEMENT, -1, 1, Integer.MIN_VALUE, Integer.MAX_VALUE), what(3));
        takes("end", transaction(2), any(0), range(1), node(1));
        takes("tell", transaction(1));
        takes("transactionAt", transaction(1), what(7));
        takes("operationAt", transaction(0), number(0, 1), what(3));
        takes("stop", node(1), any(1));
        takes("start", node(1));
        house = nodes(3);
        takes("found", new Part(7, BAD_ARGUMENT, -1, 0, 8, 9, 16, Integer.MIN_VALUE, Integer.MAX_VALUE));
    }

    private static void otherAsks() {
        house = stage();
        takes("readAsOf", node(1), moment(800 * 38), key(31), range(1), node(1));
        takes("asOf", node(1), new Part(16, BAD_ARGUMENT, 13, 17, -1, 0, 6, Integer.MAX_VALUE, Integer.MIN_VALUE), moment(800 * 38), key(31), range(1), node(1));
        takes("asOf", node(1), new Part(14, BAD_ARGUMENT, 13, 12, 17), moment(0), any(32), range(1), node(1));
        takes("asOf", node(1), new Part(15, BAD_ARGUMENT, 13, 12, 17), moment(0), any(-1), range(1), node(1));
        takes("push", node(1), transaction(2), range(1), node(1));
        takes("resolve", node(0), transaction(0), key(31), range(1), node(1));
        takes("split", node(1), value(1, 1, 31), range(1), node(1));
        takes("split", node(1), value(31, 1, 31), range(1), node(1));
        takes("freeze", node(1), range(1), range(0), node(1));
        takes("settleJoin", node(1), new Part(7, BAD_ARGUMENT, 6, 10, -1, 16, Integer.MAX_VALUE, Integer.MIN_VALUE), new Part(6, BAD_ARGUMENT, 0, 5, 7, 8), node(1));
        takes("settleJoin", node(1), new Part(9, BAD_ARGUMENT, 6, 10), new Part(6, NO_SUCH_NUMBER, -1, house.count(7), 500, Integer.MAX_VALUE, Integer.MIN_VALUE), node(1));
        takes("change", node(1), any(1), node(1), range(1), node(1));
        takes("again", ask(8), node(1));
        takes("askAt", ask(11), what(6));
    }

    private static void copiesAndRanges() {
        house = stage();
        takes("copyAt", new Part(0, NO_SUCH_NUMBER, -1, 1, 2), range(1), what(7));
        int last = house.copyAt(0, 0, 3);
        takes("entryAt", new Part(0, NO_SUCH_NUMBER, -1, 1, 2), range(0), new Part(last, NO_SUCH_NUMBER, 0, last + 1, -1, Integer.MIN_VALUE, Integer.MAX_VALUE), what(2));
        takes("entryAt", node(0), range(0), new Part(1, NO_SUCH_NUMBER, 0, last + 1), what(2));
        takes("rangeAt", range(1), what(9));
        takes("versionAt", range(0), new Part(4, NO_SUCH_NUMBER, 3, -1, 16, 31, 32, Integer.MIN_VALUE, Integer.MAX_VALUE), number(0, 1), any(1));
        takes("intentAt", range(0), new Part(15, NO_SUCH_NUMBER, -1, 16, 31, 32, Integer.MIN_VALUE, Integer.MAX_VALUE), what(3));
        takes("intentAt", range(1), new Part(16, NO_SUCH_NUMBER, 15, 32, 0, -1), what(3));
        takes("resolved", new Part(0, NO_SUCH_NUMBER, -1, 1, 2), range(1));
        takes("feedAt", new Part(0, NO_SUCH_NUMBER, -1, 1, 2), range(0), new Part(0, BAD_STATE, -1, MOMENT_MIN), new Part(0, NO_ELEMENT, -1, 1, Integer.MIN_VALUE, Integer.MAX_VALUE), what(3));
        takes("ownerOf", key(31));
        takes("valueAt", key(31), any(MOMENT_MIN));
        takes("heldAt", key(31));
        house.compact(0, 0);
        takes("copyAt", node(0), range(0), what(7));
        refuses("entryAt", NO_SUCH_NUMBER, node(0), range(0), any(last), what(2));
    }

    private static void programsAndTime() {
        house = stage();
        takes("piece", value(5, 0, 5));
        takes("codeLength", number(0, 1));
        takes("codeAt", number(0, 1), number(3, 4), what(3));
        takes("trial", number(0, 1), any(Integer.MIN_VALUE), any(Integer.MAX_VALUE));
        takes("trialAt", what(33));
        takes("run", node(1), number(0, 1), any(Integer.MIN_VALUE), any(Integer.MAX_VALUE));
        takes("jobAt", number(1, 2), what(8));
        takes("setKeeper", node(1), any(1));
        takes("messageAt", number(1, 2), what(6));
        for (String name : new String[] {"deliver", "lose", "twice"}) {
            takes(name, value(1000, 0, 1000));
            takes(name, value(0, 0, 1000));
        }
        takes("pass", value(1, 1, 30));
        takes("pass", value(30, 1, 30));
        takes("settle", value(1, 1, 40));
        takes("settle", value(40, 1, 40));
        takes("play", any(Integer.MIN_VALUE), value(1, 1, 150));
        takes("play", any(Integer.MAX_VALUE), value(150, 1, 150));
        takes("count", what(18));
    }

    /** What is told from 0 on up to the last one is told for each number between. */
    private static void everyWhat() {
        house = stage();
        String[] names = {"nodeAt 0 4", "transactionAt 0 7", "operationAt 0,0 3", "askAt 0 6", "copyAt 0,0 7", "entryAt 0,0,1 2", "rangeAt 0 9", "intentAt 0,0 3", "codeAt 0,0 3",
            "jobAt 0 8", "messageAt 0 6", "feedAt 0,0,0,0 3", "scanAt 4,0 3"};
        for (String row : names) {
            String[] words = row.split(" ");
            String[] first = words[1].split(",");
            for (int what = 0; what <= Integer.parseInt(words[2]); what++) {
                long[] numbers = new long[first.length + 1];
                for (int i = 0; i < first.length; i++) {
                    numbers[i] = Long.parseLong(first[i]);
                }
                numbers[first.length] = what;
                throwsNow(words[0], null, numbers);
            }
        }
    }

    // states in which a call throws

    private static void fullHouse() {
        house = nodes(5);
        refuses("addNode", BAD_STATE, value(0, -3, 3));
        house.found(1);
        refuses("found", BAD_STATE, new Part(1, BAD_ARGUMENT, 0, -1, 32));
        house.stop(4, false);
        refuses("found", BAD_STATE, new Part(1, BAD_ARGUMENT, 16, 17, 31));
        refuses("start", BAD_STATE, node(0));
        refuses("stop", BAD_STATE, node(4), any(0));
        refuses("stop", BAD_STATE, node(4), any(1));
        refuses("compact", BAD_STATE, node(3), range(0));
        house.stop(0, false);
        refuses("compact", BAD_STATE, node(0), range(0));
        refuses("resolved", BAD_STATE, new Part(0, NO_SUCH_NUMBER, -1, 1, 5), range(0));
        refuses("feedAt", BAD_STATE, new Part(0, NO_SUCH_NUMBER, -1, 1, 5), range(0), any(0), new Part(0, NO_ELEMENT, -1, 0), what(3));
        refuses("feedAt", BAD_STATE, new Part(0, NO_SUCH_NUMBER, -1, 1, 5), range(0), any(0), any(0), value(0, 0, 3));
        house.start(0);
        house.pass(9);
        while (house.count(4) < 79) {
            house.begin(0);
        }
        takes("begin", node(0));
        refuses("begin", BAD_STATE, node(0));
        house.stop(1, false);
        refuses("begin", BAD_STATE, node(1));
    }

    /** A transaction in each state but OPEN, and one that is OPEN but has an ask without an answer, or is a job's. */
    private static void closedTransactions() {
        for (int state = 0; state <= Rangehold.LOST + 2; state++) {
            house = stage();
            boolean isFree = state == Rangehold.DOOMED;
            int it = state == 7 ? ofJob() : transactionIn(state);
            is("its state", house.transactionAt(it, 0), state > Rangehold.LOST ? Rangehold.OPEN : state);
            refusesOperations(it);
            if (state == Rangehold.OPEN) {
                continue;
            }
            refuses("end", BAD_STATE, transaction(it), any(1), range(0), node(0));
            if (!isFree) {
                refuses("end", BAD_STATE, transaction(it), any(0), range(0), node(0));
            } else {
                takes("end", transaction(it), any(0), range(0), node(0));
            }
        }
    }

    private static int ofJob() {
        with(house, " zz{put 7,1;}");
        house.run(0, 1, 0, 0);
        return (int) house.jobAt(1, 6);
    }

    private static int transactionIn(int state) {
        int it = house.begin(0);
        is("WRITE", answer(house, house.write(it, 6, 60, 0, 0)), OK);
        if (state == Rangehold.OPEN || state > Rangehold.LOST) {
            house.read(it, 6, 0, 0);
        } else if (state == Rangehold.DOOMED) {
            int other = house.begin(0);
            is("a reading", answer(house, house.read(other, 7, 0, 0)), OK);
            is("LATE", answer(house, house.write(it, 7, 1, 0, 0)), Rangehold.LATE);
        } else if (state == Rangehold.ENDING) {
            house.end(it, true, 0, 0);
        } else if (state == Rangehold.LOST) {
            house.stop(0, false);
        } else {
            is("END", answer(house, house.end(it, state == Rangehold.COMMITTED, 0, 0)), OK);
        }
        return it;
    }

    private static void refusesOperations(int it) {
        refuses("read", BAD_STATE, transaction(it), key(0), range(0), node(0));
        refuses("write", BAD_STATE, transaction(it), key(0), new Part(0, BAD_ARGUMENT, 1L << 31), range(0), node(0));
        refuses("scan", BAD_STATE, transaction(it), key(0), new Part(1, BAD_ARGUMENT, 0, 33), range(0), node(0));
    }

    /** With 499 asks each call that asks is taken; with 500 it throws, and again() is taken. */
    private static void fullAsks() {
        List<Object[]> rows = new ArrayList<>();
        house = stage();
        rows.add(new Object[] {"read", new Part[] {transaction(1), key(0), range(0), node(0)}});
        rows.add(new Object[] {"write", new Part[] {transaction(1), key(0), any(0), range(0), node(0)}});
        rows.add(new Object[] {"scan", new Part[] {transaction(1), key(0), new Part(1, BAD_ARGUMENT, 0, 33), range(0), node(0)}});
        rows.add(new Object[] {"end", new Part[] {transaction(2), any(1), range(0), node(0)}});
        rows.add(new Object[] {"end", new Part[] {transaction(2), any(0), range(0), node(0)}});
        rows.add(new Object[] {"readAsOf", new Part[] {node(0), moment(0), key(0), range(0), node(0)}});
        rows.add(new Object[] {"asOf", new Part[] {node(0), any(Rangehold.LOOK), moment(0), key(0), range(0), node(0)}});
        rows.add(new Object[] {"asOf", new Part[] {node(0), any(Rangehold.CLOSE), moment(0), any(99), range(0), node(0)}});
        rows.add(new Object[] {"asOf", new Part[] {node(0), any(Rangehold.SWEEP), moment(0), any(99), range(0), node(0)}});
        rows.add(new Object[] {"push", new Part[] {node(0), transaction(2), range(0), node(0)}});
        rows.add(new Object[] {"resolve", new Part[] {node(0), transaction(0), key(0), range(0), node(0)}});
        rows.add(new Object[] {"split", new Part[] {node(0), value(1, 1, 31), range(0), node(0)}});
        rows.add(new Object[] {"freeze", new Part[] {node(0), range(1), range(0), node(0)}});
        for (int kind = Rangehold.JOIN; kind <= Rangehold.THAW; kind++) {
            rows.add(new Object[] {"settleJoin", new Part[] {node(0), any(kind), new Part(6, BAD_ARGUMENT, 0, 5), node(0)}});
        }
        rows.add(new Object[] {"change", new Part[] {node(0), any(0), node(1), range(0), node(0)}});
        for (Object[] row : rows) {
            String name = (String) row[0];
            house = stage();
            flood(house, 499);
            throwsNow(name, null, goods((Part[]) row[1]));
            is(name + " is the 500th ask", house.count(7), 500);
            house = stage();
            flood(house, 500);
            refuses(name, BAD_STATE, (Part[]) row[1]);
        }
        takes("again", new Part(499, NO_SUCH_NUMBER, -1, 500), node(0));
        is("an END of one without an anchor key needs no ask", house.end(1, true, 9, 9), NONE);
        is("there are 500 asks", house.count(7), 500);
    }

    /** The node that asks is down. */
    private static void downAsker() {
        house = stage();
        house.push(1, 0, 0, 0);
        calm(house);
        house.stop(1, false);
        refuses("readAsOf", BAD_STATE, node(1), moment(0), key(0), range(0), node(0));
        refuses("asOf", BAD_STATE, node(1), value(16, 14, 16), moment(0), key(0), range(0), node(0));
        refuses("push", BAD_STATE, node(1), transaction(2), range(0), node(0));
        refuses("resolve", BAD_STATE, node(1), transaction(0), key(0), range(0), node(0));
        refuses("split", BAD_STATE, node(1), value(1, 1, 31), range(0), node(0));
        refuses("freeze", BAD_STATE, node(1), range(0), range(1), node(0));
        refuses("settleJoin", BAD_STATE, node(1), value(7, 7, 9), new Part(6, BAD_ARGUMENT, 0, 5), node(0));
        refuses("change", BAD_STATE, node(1), any(1), node(1), range(0), node(0));
        refuses("run", BAD_STATE, node(1), number(0, 1), any(0), any(0));
        refuses("again", BAD_STATE, ask(8), node(0));
        refuses("again", BAD_STATE, ask(7), node(0));
    }

    private static void otherStates() {
        house = stage();
        refuses("push", BAD_STATE, node(0), transaction(1), range(0), node(0));
        refuses("resolve", BAD_STATE, node(1), transaction(0), key(4), range(0), node(0));
        refuses("resolve", BAD_STATE, node(0), transaction(2), key(3), range(0), node(0));
        refuses("freeze", BAD_STATE, node(0), new Part(1, NO_SUCH_NUMBER, -1, 2), new Part(1, NO_SUCH_NUMBER, -1, 2), node(0));
        refuses("feedAt", BAD_STATE, new Part(0, NO_SUCH_NUMBER, -1, 1, 2), range(0), any(-1), any(99), value(1, 0, 3));
        int wrongFreeze = house.freeze(0, 1, 0, 1);
        refuses("settleJoin", BAD_STATE, node(0), new Part(7, BAD_ARGUMENT, 6, 10), any(wrongFreeze), node(0));
        refuses("settleJoin", BAD_STATE, node(0), new Part(9, BAD_ARGUMENT, 6, 10), any(wrongFreeze), node(0));
        is("FREEZE at a node without a copy", answer(house, wrongFreeze), Rangehold.NO_COPY);
        refuses("settleJoin", BAD_STATE, node(0), new Part(7, BAD_ARGUMENT, 6, 10), any(wrongFreeze), node(0));
        int refuse = house.settleJoin(0, Rangehold.REFUSE, wrongFreeze, 1);
        refuses("settleJoin", BAD_STATE, node(0), any(9), any(wrongFreeze), node(0));
        is("REFUSE at a node without a copy", answer(house, refuse), Rangehold.NO_COPY);
        refuses("settleJoin", BAD_STATE, node(0), any(9), any(wrongFreeze), node(0));
        for (int i = 2; i < 8; i++) {
            house.split(0, 1, 0, 1);
        }
        refuses("split", BAD_STATE, node(0), value(8, 1, 31), range(0), node(0));
        house = nodes(1);
        with(house, "tx ab{}");
        refuses("run", BAD_STATE, node(0), number(0, 1), any(0), any(0));
        house.found(1);
        for (int i = 0; i < 23; i++) {
            house.run(0, 0, 0, 0);
        }
        takes("run", node(0), number(0, 1), any(0), any(0));
        refuses("run", BAD_STATE, node(0), number(0, 1), any(0), any(0));
    }

    private static void fullText() {
        house = new Rangehold();
        while (house.count(18) < 1200 - 79) {
            house.type(32, 0, 0, 0, 0, 0);
        }
        takes("piece", value(0, 0, 5));
        is("a text of 1200 bytes", house.count(18), 1200);
        refuses("type", BAD_STATE, any(0), any(0), any(0), any(0), any(0), any(1));
        refuses("type", BAD_STATE, any(0x0100000000000000L), any(0), any(0), any(0), any(0), any(0));
        refuses("piece", BAD_STATE, value(1, 0, 5));
        takes("type", any(0), any(0), any(0), any(0), any(0), any(0));
        put(house, "");
        house.load();
        house.type('!', 0, 0, 0, 0, 0);
        refuses("load", BAD_STATE);
        is("the text stays", house.count(18), 1);
    }

    private static void late() {
        house = new Rangehold();
        while (house.count(0) < 4990) {
            house.pass(10);
        }
        refuses("pass", BAD_STATE, new Part(11, BAD_ARGUMENT, 0, 31));
        refuses("settle", BAD_STATE, new Part(11, BAD_ARGUMENT, 0, 41));
        refuses("play", BAD_STATE, any(1), new Part(11, BAD_ARGUMENT, 0, 151));
        takes("settle", value(10, 1, 40));
        takes("pass", value(10, 1, 30));
        is("the last time", house.count(0), 5000);
        refuses("pass", BAD_STATE, value(1, 1, 30));
        refuses("settle", BAD_STATE, value(1, 1, 40));
        refuses("play", BAD_STATE, any(0), value(1, 1, 150));
        house = new Rangehold();
        while (house.count(0) < 4850) {
            house.pass(10);
        }
        refuses("settle", null, value(40, 1, 40));
        takes("play", any(5), value(150, 1, 150));
        house.pass(1);
        refuses("play", BAD_STATE, any(5), new Part(150, BAD_ARGUMENT, 0, 151));
    }

    public static void main(String[] args) {
        nodesAndTransactions();
        otherAsks();
        copiesAndRanges();
        programsAndTime();
        everyWhat();
        fullHouse();
        closedTransactions();
        fullAsks();
        downAsker();
        otherStates();
        fullText();
        late();
        finish("CallEdges");
    }
}
