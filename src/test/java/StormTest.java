import java.util.Random;

/**
 * Drawn runs of all calls, in which nodes stop, disks are lost and messages come as they like. What the document says of
 * every run is looked at through the questions alone: the theorem, and how their answers go together.
 */
public final class StormTest extends Checks {
    private static final int RUNS = 1500;

    private final Random random;
    private final Rangehold x = new Rangehold();
    private final String name;

    private StormTest(long seed) {
        random = new Random(seed);
        name = "run " + seed + ": ";
    }

    public static void main(String[] args) {
        long first = args.length > 0 ? Long.parseLong(args[0]) : 1;
        long many = args.length > 1 ? Long.parseLong(args[1]) : RUNS;
        for (long seed = first; seed < first + many && wrong == 0; seed++) {
            new StormTest(seed).run();
        }
        finish("StormTest");
    }

    private void run() {
        begin();
        int calls = draw(60, 400);
        boolean isCalm = chance(0.3);
        for (int i = 0; i < calls; i++) {
            Class<?> thrown = thrownBy(chance(0.6) ? this::act : isCalm ? () -> x.settle(draw(1, 4)) : this::goOn);
            is(name + "throws what the document names: " + thrown, isNamed(thrown), true);
            if (i % 50 == 49) {
                checkAll();
            }
        }
        checkAll();
    }

    private static boolean isNamed(Class<?> thrown) {
        return thrown == null || thrown == NO_SUCH_NUMBER || thrown == BAD_ARGUMENT || thrown == BAD_STATE || thrown == NO_ELEMENT;
    }

    private void begin() {
        int nodes = draw(1, 5);
        for (int i = 0; i < nodes; i++) {
            x.addNode(draw(-3, 3));
        }
        x.found(chance(0.6) ? (1 << nodes) - 1 : draw(1, (1 << nodes) - 1));
        x.settle(draw(12, 40));
        for (int i = 0; i < 6; i++) {
            x.piece(i);
        }
        x.load();
        for (int i = 0; i < nodes; i++) {
            x.setKeeper(i, chance(0.4));
        }
    }

    // what is drawn

    private int draw(int least, int most) {
        return least + random.nextInt(Math.max(1, most - least + 1));
    }

    private boolean chance(double share) {
        return random.nextDouble() < share;
    }

    private int key() {
        return chance(0.5) ? draw(0, 31) : 5 * draw(0, 5);
    }

    private int node() {
        return chance(0.02) ? draw(-1, 5) : draw(0, x.count(1) - 1);
    }

    private int range() {
        return chance(0.02) ? draw(-1, 8) : isThere(7) || chance(0.5) ? draw(0, x.count(3)) : 0;
    }

    private int owner(long key) {
        int owner = key < 0 || chance(0.07) ? NONE : x.ownerOf((int) key);
        return owner == NONE ? range() : owner;
    }

    private int leaderNow(int range) {
        return chance(0.12) ? node() : leader(x, range);
    }

    private int transaction(boolean isOpen) {
        int it = 0;
        for (int i = 0; i < 6; i++) {
            it = Math.max(0, x.count(4) - 1 - draw(0, 9));
            if (!isOpen || x.count(4) == 0 || x.transactionAt(it, 0) <= Rangehold.ENDING) {
                break;
            }
        }
        return it;
    }

    private long moment() {
        return Math.max(0, chance(0.3) ? draw(0, 800 * (x.count(0) + 10)) : 800L * (x.count(0) + draw(-20, 4)) + draw(-3, 3));
    }

    /** The range that ends where this one begins; any one without it. */
    private int neighbour(int range) {
        long first = x.rangeAt(range, 0);
        int ahead = first == 0 || chance(0.1) ? NONE : x.ownerOf((int) first - 1);
        return ahead == NONE ? range() : ahead;
    }

    private int freeze() {
        int found = NONE;
        for (int i = x.count(7) - 1; i >= 0; i--) {
            found = x.askAt(i, 0) == Rangehold.FREEZE && (found == NONE || chance(0.3)) ? i : found;
        }
        return found;
    }

    // what is done

    private void act() {
        int what = draw(0, 11);
        if (what < 5) {
            operate();
        } else if (what < 7) {
            clean();
        } else if (what < 8) {
            askAsOf();
        } else if (what < 10) {
            administer();
        } else if (what < 11) {
            x.run(node(), draw(0, 5), key(), draw(0, 32));
        } else {
            hurt();
        }
    }

    private void operate() {
        int key = key();
        int range = owner(key);
        int it = transaction(true);
        switch (draw(0, 9)) {
            case 0: case 1: x.begin(node()); break;
            case 2: x.read(it, key, range, leaderNow(range)); break;
            case 3: x.scan(it, key, Math.min(32, key + draw(1, 32)), range, leaderNow(range)); break;
            case 4: case 5: case 6: x.write(it, key, chance(0.2) ? ABSENT : draw(-5, 60), range, leaderNow(range)); break;
            default:
                range = owner(x.transactionAt(it, 3));
                x.end(it, chance(0.8), range, leaderNow(range));
                break;
        }
    }

    private void clean() {
        int it = transaction(false);
        int key = chance(0.6) ? (int) x.transactionAt(it, 3) : key();
        int range = owner(key);
        switch (draw(0, 4)) {
            case 0: x.tell(it); break;
            case 1: case 2: x.push(node(), it, range, leaderNow(range)); break;
            default: x.resolve(node(), it, key, range, leaderNow(range)); break;
        }
    }

    private void askAsOf() {
        int key = key();
        int range = owner(key);
        long moment = chance(0.4) ? x.rangeAt(range, 8) : moment();
        int kind = chance(0.5) ? Rangehold.LOOK : chance(0.5) ? Rangehold.CLOSE : Rangehold.SWEEP;
        if (chance(0.3)) {
            x.readAsOf(node(), moment, key, range, leaderNow(range));
        } else {
            x.asOf(node(), kind, moment, key, range, chance(0.4) ? node() : leaderNow(range));
        }
    }

    private void administer() {
        int range = range();
        int freeze = freeze();
        switch (draw(0, 6)) {
            case 0: x.split(node(), draw(1, 31), range, leaderNow(range)); break;
            case 1: x.freeze(node(), neighbour(range), range, leaderNow(range)); break;
            case 2: case 3:
                int kind = chance(0.5) ? Rangehold.JOIN : draw(Rangehold.REFUSE, Rangehold.THAW);
                x.settleJoin(node(), kind, freeze, leaderNow(0));
                break;
            case 4: x.change(node(), chance(0.55), node(), range, leaderNow(range)); break;
            case 5: x.again(x.count(7) - 1 - draw(0, 9), node()); break;
            default: x.compact(node(), range); break;
        }
    }

    private void hurt() {
        int node = node();
        if (chance(0.4)) {
            x.stop(node, chance(0.3));
        } else if (chance(0.1)) {
            x.setClock(node, draw(-3, 3));
        } else {
            for (int i = 0; i < x.count(1); i++) {
                if (x.nodeAt(i, 0) == 0) {
                    x.start(i);
                }
            }
        }
    }

    private void goOn() {
        switch (draw(0, 9)) {
            case 0: case 1: case 2: x.settle(draw(1, 3)); break;
            case 3: case 4: case 5: x.play(random.nextInt(), draw(1, 40)); break;
            case 6: x.pass(chance(0.8) ? draw(1, 4) : draw(1, 30)); break;
            case 7: x.lose(draw(0, 1000)); break;
            case 8: x.twice(draw(0, 1000)); break;
            default: x.deliver(chance(0.6) ? 0 : draw(0, 1000)); break;
        }
    }

    // what holds

    private boolean isThere(int range) {
        return thrownBy(() -> x.rangeAt(range, 0)) == null;
    }

    private boolean hasCopy(int node, int range) {
        return thrownBy(() -> x.copyAt(node, range, 0)) == null;
    }

    private void checkAll() {
        is(name + "agrees", x.agrees(), true);
        is(name + "errors", x.errors(), 0);
        checkKeys();
        checkTransactions();
        checkJobs();
        checkNet();
        int copies = 0;
        int entries = 0;
        int leaders = 0;
        int agreed = 0;
        for (int range = 0; range < 8; range++) {
            if (isThere(range)) {
                agreed += (int) x.rangeAt(range, 3);
                checkRange(range);
            }
            for (int node = 0; node < x.count(1); node++) {
                if (hasCopy(node, range)) {
                    copies++;
                    entries += x.copyAt(node, range, 7);
                    leaders += x.copyAt(node, range, 1) == Rangehold.LEADER ? 1 : 0;
                    checkCopy(node, range);
                }
            }
        }
        is(name + "LEADERs", x.count(12), leaders);
        is(name + "agreed entries", x.count(13), agreed);
        is(name + "meanEntries", x.meanEntries() == (copies == 0 ? 0.0f : (float) entries / (float) copies), true);
    }

    private void checkKeys() {
        for (int key = 0; key < 32; key++) {
            int owner = x.ownerOf(key);
            int least = NONE;
            for (int range = 7; range >= 0; range--) {
                boolean isOwner = isThere(range) && x.rangeAt(range, 2) == 0 && x.rangeAt(range, 0) <= key && key < x.rangeAt(range, 1);
                least = isOwner ? range : least;
            }
            is(name + "the owner of " + key, owner, least);
            is(name + "what is held of " + key, x.heldAt(key), owner == NONE ? ABSENT : x.valueAt(key, Long.MAX_VALUE));
        }
    }

    /** The numbers of a range go together with its versions and intents one by one. */
    private void checkRange(int range) {
        int versions = 0;
        int intents = 0;
        for (int key = (int) x.rangeAt(range, 0); key < x.rangeAt(range, 1); key++) {
            long last = -1;
            for (int i = 0; hasVersion(range, key, i); i++) {
                long moment = x.versionAt(range, key, i, false);
                is(name + "versions ascend", moment > last, true);
                is(name + "a version tells what was committed", x.versionAt(range, key, i, true), x.valueAt(key, moment));
                last = moment;
                versions++;
            }
            if (x.intentAt(range, key, 0) != NONE) {
                intents++;
                is(name + "an intent has a value", x.intentAt(range, key, 1) > 0, true);
                is(name + "its anchor key", x.intentAt(range, key, 2), x.transactionAt((int) x.intentAt(range, key, 0), 3));
            } else {
                is(name + "no values without an intent", x.intentAt(range, key, 1), NONE);
            }
        }
        is(name + "versions of a range", x.rangeAt(range, 4), versions);
        is(name + "intents of a range", x.rangeAt(range, 5), intents);
    }

    private boolean hasVersion(int range, int key, int version) {
        return thrownBy(() -> x.versionAt(range, key, version, false)) == null;
    }

    private void checkCopy(int node, int range) {
        int base = x.copyAt(node, range, 2);
        int last = x.copyAt(node, range, 3);
        int mark = x.copyAt(node, range, 4);
        boolean isUp = x.nodeAt(node, 0) == 1;
        is(name + "the log goes on from the base", x.copyAt(node, range, 7), last - base);
        is(name + "the mark", base <= mark && mark <= last, true);
        is(name + "what is known to be agreed was agreed on", mark <= x.rangeAt(range, 3), true);
        is(name + "a role on a node that is down", x.copyAt(node, range, 1) == NONE, !isUp);
        int term = 0;
        for (int index = base + 1; index <= last; index++) {
            is(name + "terms do not sink", x.entryAt(node, range, index, 0) >= term, true);
            term = x.entryAt(node, range, index, 0);
            int ask = x.entryAt(node, range, index, 2);
            is(name + "the command of an entry", x.entryAt(node, range, index, 1), ask == NONE ? Rangehold.NOTHING : x.askAt(ask, 0));
            is(name + "the range of its ask", ask == NONE ? range : x.askAt(ask, 2), range);
            checkAlike(node, range, index, mark);
        }
        is(name + "the term is not below that of an entry", x.copyAt(node, range, 0) >= term, true);
        if (isUp) {
            checkFeed(node, range);
        }
    }

    /** What a copy knows to be agreed is alike in the logs of all that know it. */
    private void checkAlike(int node, int range, int index, int mark) {
        for (int other = 0; other < node && index <= mark; other++) {
            if (hasCopy(other, range) && index > x.copyAt(other, range, 2) && index <= x.copyAt(other, range, 4)) {
                is(name + "agreed entries are alike", x.entryAt(other, range, index, 2), x.entryAt(node, range, index, 2));
                is(name + "their terms, too", x.entryAt(other, range, index, 0), x.entryAt(node, range, index, 0));
            }
        }
    }

    private void checkFeed(int node, int range) {
        long since = thrownBy(() -> x.feedAt(node, range, 0, 0, 0)) == null ? 0 : x.rangeAt(range, 9);
        long last = since;
        int lastKey = NONE;
        for (int i = 0; i < x.feedAt(node, range, since, i, 0); i++) {
            long moment = x.feedAt(node, range, since, i, 1);
            int key = (int) x.feedAt(node, range, since, i, 2);
            is(name + "a feed ascends", moment > last || moment == last && key > lastKey, true);
            is(name + "up to the resolved moment", moment <= x.resolved(node, range), true);
            is(name + "a feed tells what was committed", x.feedAt(node, range, since, i, 3), x.valueAt(key, moment));
            last = moment;
            lastKey = key;
        }
    }

    private void checkTransactions() {
        int committed = 0;
        int told = 0;
        for (int i = 0; i < x.count(4); i++) {
            long state = x.transactionAt(i, 0);
            long ask = x.transactionAt(i, 7);
            committed += (int) x.transactionAt(i, 5);
            told += (int) x.transactionAt(i, 6);
            is(name + "a moment ends with the node", x.transactionAt(i, 2) % 8, x.transactionAt(i, 1));
            is(name + "a COMMITTED one is committed", state == Rangehold.COMMITTED && x.transactionAt(i, 5) == 0, false);
            is(name + "an ABORTED one is not", state == Rangehold.ABORTED && x.transactionAt(i, 5) == 1, false);
            is(name + "what was told is over", x.transactionAt(i, 6) == 1 && state != Rangehold.COMMITTED && state != Rangehold.ABORTED, false);
            is(name + "an ask without an answer", ask == NONE ? NONE : x.askAt((int) ask, 3), NONE);
            is(name + "is of a transaction that goes on", ask == NONE || state == Rangehold.OPEN || state == Rangehold.ENDING, true);
            is(name + "no operation behind the last one", thrownBy(operationBehind(i)) == NO_SUCH_NUMBER, true);
            for (int j = 0; j < i; j++) {
                is(name + "moments are unlike", x.transactionAt(i, 2) == x.transactionAt(j, 2), false);
            }
        }
        is(name + "committed", x.count(5), committed);
        is(name + "told", x.count(6), told);
    }

    private Call operationBehind(int transaction) {
        return () -> x.operationAt(transaction, (int) x.transactionAt(transaction, 4), 0);
    }

    private void checkJobs() {
        int done = 0;
        for (int i = 0; i < x.count(15); i++) {
            int state = x.jobAt(i, 0);
            int it = x.jobAt(i, 6);
            done += state == Rangehold.DONE ? 1 : 0;
            is(name + "a job that fell", x.jobAt(i, 5) != 0, state == Rangehold.FELL);
            is(name + "begun", x.jobAt(i, 3) >= 1 && x.jobAt(i, 3) <= 8, true);
            is(name + "an ask of a job that runs", x.jobAt(i, 8) == NONE || state == Rangehold.RUNS, true);
            is(name + "a DONE one told", state == Rangehold.DONE && x.transactionAt(it, 6) == 0, false);
            is(name + "a job's node", it == NONE ? x.jobAt(i, 1) : x.transactionAt(it, 1), x.jobAt(i, 1));
            is(name + "a job on a node that is down", state == Rangehold.RUNS && x.nodeAt(x.jobAt(i, 1), 0) == 0, false);
        }
        is(name + "DONE jobs", x.count(16), done);
    }

    private void checkNet() {
        int open = 0;
        int fine = 0;
        for (int i = 0; i < x.count(7); i++) {
            long answer = x.askAt(i, 3);
            open += answer == NONE ? 1 : 0;
            fine += answer == OK ? 1 : 0;
            is(name + "an ask without an answer is of a node that is up", answer == NONE && x.nodeAt((int) x.askAt(i, 1), 0) == 0, false);
        }
        is(name + "asks without an answer", x.count(8), open);
        is(name + "fineShare", x.fineShare() == (x.count(7) == 0 ? 0.0 : (double) fine / (double) x.count(7)), true);
        is(name + "messages", x.count(9) <= 150 && x.count(9) + x.count(11) <= x.count(10), true);
        is(name + "no message behind the last one", thrownBy(() -> x.messageAt(x.count(9), 0)) == NO_SUCH_NUMBER, true);
    }
}
