/** The edges that the sections 2 to 4 name: clocks and moments, what a range holds, and each command. */
public final class CommandEdges extends Checks {
    private static final int WAITS = Rangehold.WAITS, LATE = Rangehold.LATE, WRONG = Rangehold.WRONG, FROZEN = Rangehold.FROZEN, GONE = Rangehold.GONE;
    private static final int REFUSED = Rangehold.REFUSED, JOINED = Rangehold.JOINED;
    private static final int JOIN = Rangehold.JOIN, REFUSE = Rangehold.REFUSE, THAW = Rangehold.THAW;

    private static long readAsOf(Rangehold x, long moment, int key) {
        return answer(x, x.readAsOf(0, moment, key, 0, 0));
    }

    private static long value(Rangehold x) {
        return x.askAt(x.count(7) - 1, 4);
    }

    private static long moment(Rangehold x, int transaction) {
        return x.transactionAt(transaction, 2);
    }

    private static long write(Rangehold x, int transaction, int key, long value) {
        return answer(x, x.write(transaction, key, value, 0, 0));
    }

    private static long settle(Rangehold x, int kind, int freeze) {
        return answer(x, x.settleJoin(0, kind, freeze, 0));
    }

    /** The node 0 is told this k: a new transaction of it is LATE by a reading of this moment. */
    private static void tellK(Rangehold x, long k, int key) {
        int it = x.begin(0);
        is("a reading", readAsOf(x, 8 * k, key), OK);
        is("a WRITE ahead of it", write(x, it, key, 1), LATE);
        is("its k", value(x) / 8, k);
    }

    // section 2

    private static void clocks() {
        Rangehold x = new Rangehold();
        is("the time is 0 at first", x.count(0), 0);
        x.addNode(-3);
        is("a clock shows the time and its offset", x.nodeAt(0, 1), -3);
        is("no k at first", x.nodeAt(0, 4), 0);
        is("the disk has the number 0 at first", x.nodeAt(0, 2), 0);
        x.begin(0);
        is("the least clock at the time 0 tells 0, which is not 1 more than 0", moment(x, 0), 8);
        x.setClock(0, -2);
        x.begin(0);
        is("100 is more than 2", moment(x, 1), 800);
        x.setClock(0, -3);
        x.begin(0);
        is("a clock that is set back: 1 more than the last k", moment(x, 2), 808);
        x.setClock(0, 3);
        x.begin(0);
        is("the greatest offset", moment(x, 3), 4800);
        for (int i = 0; i < 4; i++) {
            x.addNode(0);
        }
        x.begin(4);
        is("a moment ends with the number of its node", moment(x, 4), 8 * 300 + 4);
        is("each node has its own k", x.nodeAt(3, 4), 0);
    }

    private static void toldMoments() {
        for (int less = 0; less <= 2; less++) {
            Rangehold x = alone();
            tellK(x, 1899 + less - 1, 5);
            is("the node was told the k", x.nodeAt(0, 4), 1898 + less);
            x.pass(7);
            int it = x.begin(0);
            is("100 * (16 + 3), or 1 more than what was told", moment(x, it), 8 * (less == 2 ? 1901 : 1900));
        }
        Rangehold x = three();
        int it = x.begin(1);
        is("a reading", readAsOf(x, 8 * 1500, 5), OK);
        is("LATE", answer(x, x.write(it, 5, 1, 0, 0)), LATE);
        is("the node of the transaction was told", x.nodeAt(1, 4), 1500);
        is("the LEADER's node was not", x.nodeAt(0, 4), 0);
        int early = x.begin(1);
        x.begin(1);
        int late = x.begin(1);
        is("k behind k", moment(x, late), 8 * 1503 + 1);
        is("a reading", answer(x, x.read(x.begin(1), 6, 0, 0)), OK);
        is("LATE", answer(x, x.write(early, 6, 1, 0, 0)), LATE);
        is("what is told again sinks no k", x.nodeAt(1, 4), 1504);
        x.stop(1, true);
        is("the last k stays with the node that stops and loses its disk", x.nodeAt(1, 4), 1504);
        x.start(1);
        is("and when it starts", moment(x, x.begin(1)), 8 * 1505 + 1);
    }

    private static void toldByGone() {
        Rangehold x = alone();
        int scans = x.begin(0);
        int reads = x.begin(0);
        is("CLOSE", close(x, 8 * 1500, 0), OK);
        is("SWEEP", sweep(x, 8 * 1500, 0), OK);
        is("no k by these", x.nodeAt(0, 4), 1201);
        is("a READ below the floor", answer(x, x.read(reads, 3, 0, 0)), GONE);
        is("with the floor", value(x), 8 * 1500);
        is("the node was told its k", x.nodeAt(0, 4), 1500);
        is("it is DOOMED", x.transactionAt(reads, 0), Rangehold.DOOMED);
        is("a SCAN below the floor", answer(x, x.scan(scans, 3, 4, 0, 0)), GONE);
        is("with the floor", value(x), 8 * 1500);
        is("it is DOOMED", x.transactionAt(scans, 0), Rangehold.DOOMED);
        is("a read as of a moment below the floor", readAsOf(x, 8 * 1500 - 1, 3), GONE);
        is("nobody is told by it", x.nodeAt(0, 4), 1500);
    }

    private static void disks() {
        Rangehold x = nodes(1);
        x.stop(0, false);
        is("a disk that stays has its number", x.nodeAt(0, 2), 0);
        x.start(0);
        for (int i = 1; i <= 3; i++) {
            x.stop(0, true);
            is("a disk that is lost: the number is 1 more", x.nodeAt(0, 2), i);
            x.start(0);
            is("it stays when the node starts", x.nodeAt(0, 2), i);
        }
    }

    // READ

    private static void readsAndIntents() {
        Rangehold x = alone();
        int it = x.begin(0);
        long m = moment(x, it);
        is("a WRITE", write(x, it, 5, 50), OK);
        is("a read as of the moment ahead of an intent", readAsOf(x, m - 1, 5), OK);
        is("a read as of the moment of an intent", readAsOf(x, m, 5), WAITS);
        is("with its transaction", value(x), it);
        is("a read as of the moment behind it", readAsOf(x, m + 1, 5), WAITS);
        is("what waits reads nothing", x.intentAt(0, 5, 3), m);
        is("the own intent is not in the way", answer(x, x.read(it, 5, 0, 0)), OK);
        is("its value", value(x), 50);
        is("other keys are free", readAsOf(x, m, 6), OK);
    }

    private static void readingMoments() {
        Rangehold x = alone();
        int it = x.begin(0);
        long m = moment(x, it);
        is("never read", x.intentAt(0, 5, 3), 0);
        is("a READ", answer(x, x.read(it, 5, 0, 0)), OK);
        is("by a transaction: m", x.intentAt(0, 5, 3), m);
        is("a read as of m - 1", readAsOf(x, m - 1, 5), OK);
        is("is not more than m", x.intentAt(0, 5, 3), m);
        is("a read as of m", readAsOf(x, m, 5), OK);
        is("without a transaction: m + 1", x.intentAt(0, 5, 3), m + 1);
        is("a READ of m", answer(x, x.read(it, 5, 0, 0)), OK);
        is("sinks nothing", x.intentAt(0, 5, 3), m + 1);
        is("a read as of 0", readAsOf(x, 0, 6), OK);
        is("is 1", x.intentAt(0, 6, 3), 1);
    }

    private static void readVersions() {
        Rangehold x = alone();
        long first = moment(x, settled(x, 0, 5, 50));
        long second = moment(x, settled(x, 0, 5, 51));
        long[] moments = {0, first - 1, first, first + 1, second - 1, second, second + 1};
        long[] due = {ABSENT, ABSENT, 50, 50, 50, 51, 51};
        for (int i = 0; i < moments.length; i++) {
            is("a read as of " + moments[i], readAsOf(x, moments[i], 5), OK);
            is("the version with the greatest moment up to " + moments[i], value(x), due[i]);
        }
        int it = x.begin(0);
        is("a READ", answer(x, x.read(it, 5, 0, 0)), OK);
        is("the latest version", value(x), 51);
    }

    private static void ownWrites() {
        Rangehold x = three();
        int it = x.begin(0);
        int lost = x.write(it, 5, 50, 0, 1);
        is("a WRITE that is not done", answer(x, lost), Rangehold.NOT_LEADER);
        is("a WRITE", write(x, it, 5, 51), OK);
        int unheard = x.write(it, 5, 52, 0, 0);
        bring(x, Rangehold.REQUEST, 0);
        x.again(unheard, 1);
        bring(x, Rangehold.REQUEST, 1);
        bring(x, Rangehold.ANSWER, 0);
        is("a WRITE that was carried out, but is answered otherwise", answer(x, unheard), Rangehold.NOT_LEADER);
        is("its value is in the intent", x.intentAt(0, 5, 1), 2);
        is("a READ", answer(x, x.read(it, 5, 0, 0)), OK);
        is("tells what was answered OK", value(x), 51);
        int alien = x.write(it, 6, 60, 0, 0);
        bring(x, Rangehold.REQUEST, 0);
        x.again(alien, 1);
        bring(x, Rangehold.REQUEST, 1);
        is("another one", answer(x, alien), Rangehold.NOT_LEADER);
        is("is in an intent", x.intentAt(0, 6, 0), it);
        is("a READ of its key", answer(x, x.read(it, 6, 0, 0)), OK);
        is("tells nothing of it", value(x), ABSENT);
        is("END", answer(x, x.end(it, true, 0, 0)), OK);
        is("held by the number that the record tells", x.heldAt(5), 51);
        is("what the record does not tell is not held", x.heldAt(6), ABSENT);
        resolveAll(x, it, 0, 5, 6);
        is("the version with this number", x.versionAt(0, 5, 0, true), 51);
        is("there is no other one", x.rangeAt(0, 4), 1);
        is("and no intent", x.rangeAt(0, 5), 0);
        is("agrees", x.agrees(), true);
        is("errors", x.errors(), 0);
    }

    // FROZEN, WRONG, GONE

    private static void gone() {
        Rangehold x = alone();
        int it = x.begin(0);
        long m = moment(x, it);
        is("an intent", write(x, it, 5, 50), OK);
        int at = x.begin(0);
        long floor = moment(x, at);
        is("CLOSE", close(x, floor, 0), OK);
        is("SWEEP", sweep(x, floor, 0), OK);
        is("less than the floor", readAsOf(x, floor - 1, 6), GONE);
        is("with the floor", value(x), floor);
        is("it reads nothing", x.intentAt(0, 6, 3), floor + 1);
        is("the floor itself", readAsOf(x, floor, 6), OK);
        is("GONE ahead of an intent that is in the way", readAsOf(x, m, 5), GONE);
        is("an intent at the floor", readAsOf(x, floor, 5), WAITS);
        is("a READ of the moment of the floor", answer(x, x.read(at, 6, 0, 0)), OK);
        is("a SCAN of the moment of the floor", answer(x, x.scan(at, 6, 32, 0, 0)), OK);
        is("SPLIT", answer(x, x.split(0, 16, 0, 0)), OK);
        is("WRONG ahead of GONE", readAsOf(x, 0, 16), WRONG);
        is("the last key of the range", readAsOf(x, 0, 15), GONE);
        int freeze = x.freeze(0, 1, 0, 0);
        is("FREEZE", answer(x, freeze), OK);
        is("FROZEN ahead of WRONG", readAsOf(x, floor, 16), FROZEN);
        is("FROZEN ahead of GONE", readAsOf(x, 0, 15), FROZEN);
    }

    /** Each command in a range that is frozen, and with a key that is out of the range. */
    private static void frozenAndWrong() {
        Rangehold x = alone();
        int out = commit(x, 0, 20, 200);
        int it = x.begin(0);
        is("an anchor key behind", write(x, it, 31, 1), OK);
        int fresh = x.begin(0);
        is("SPLIT", answer(x, x.split(0, 16, 0, 0)), OK);
        int reads = x.begin(0);
        is("READ", answer(x, x.read(reads, 16, 0, 0)), WRONG);
        is("READ of the last key", answer(x, x.read(reads, 15, 0, 0)), OK);
        is("WRITE", write(x, reads, 16, 1), WRONG);
        is("SCAN from a key behind", answer(x, x.scan(reads, 16, 17, 0, 0)), WRONG);
        is("SCAN from the last key", answer(x, x.scan(reads, 15, 17, 0, 0)), OK);
        is("END by its anchor key", answer(x, x.end(it, true, 0, 0)), WRONG);
        is("PUSH by its anchor key", answer(x, x.push(0, it, 0, 0)), WRONG);
        is("RESOLVE by its key", answer(x, x.resolve(0, out, 16, 0, 0)), WRONG);
        is("RESOLVE of a key of the range, though the anchor key is not", answer(x, x.resolve(0, out, 15, 0, 0)), OK);
        is("SPLIT at the key behind the last one", answer(x, x.split(0, 16, 0, 0)), WRONG);
        is("WRONG dooms nothing", x.transactionAt(reads, 0), Rangehold.OPEN);
        is("no operation is done by it", x.transactionAt(reads, 4), 2);
        is("FREEZE", answer(x, x.freeze(0, 1, 0, 0)), OK);
        is("READ", answer(x, x.read(fresh, 15, 0, 0)), FROZEN);
        is("WRITE", write(x, fresh, 15, 1), FROZEN);
        is("SCAN", answer(x, x.scan(fresh, 15, 16, 0, 0)), FROZEN);
        is("END", answer(x, x.end(fresh, true, 0, 0)), FROZEN);
        is("PUSH", answer(x, x.push(0, it, 0, 0)), FROZEN);
        is("RESOLVE", answer(x, x.resolve(0, out, 15, 0, 0)), FROZEN);
        is("SPLIT", answer(x, x.split(0, 8, 0, 0)), FROZEN);
        is("CLOSE", close(x, 0, 0), FROZEN);
        is("SWEEP", sweep(x, 0, 0), FROZEN);
        is("CLOSE closed nothing", x.rangeAt(0, 8), 0);
        is("ADD", answer(x, x.change(0, true, 0, 0, 0)), OK);
        is("FROZEN dooms nothing", x.transactionAt(fresh, 0), Rangehold.ENDING);
    }

    // WRITE

    private static void writesAndIntents() {
        Rangehold x = alone();
        int early = x.begin(0);
        int holder = x.begin(0);
        int late = x.begin(0);
        is("a WRITE", write(x, holder, 5, 50), OK);
        is("a WRITE of a greater moment", write(x, late, 5, 51), WAITS);
        is("with the other one", value(x), holder);
        is("which is not DOOMED", x.transactionAt(late, 0), Rangehold.OPEN);
        is("a WRITE of a lesser moment", write(x, early, 5, 49), LATE);
        is("with the moment of the intent", value(x), moment(x, holder));
        is("the intent has one value still", x.intentAt(0, 5, 1), 1);
        is("a WRITE of the same transaction", write(x, holder, 5, 52), OK);
        is("two values", x.intentAt(0, 5, 1), 2);
    }

    private static void writesAndReadings() {
        Rangehold x = alone();
        int it = x.begin(0);
        long m = moment(x, it);
        is("a reading of m, by itself", answer(x, x.read(it, 5, 0, 0)), OK);
        is("is not above m", write(x, it, 5, 1), OK);
        is("a reading of m, as of m - 1", readAsOf(x, m - 1, 6), OK);
        is("is not above m", write(x, it, 6, 1), OK);
        is("a reading of m + 1, as of m", readAsOf(x, m, 7), OK);
        is("is above m", write(x, it, 7, 1), LATE);
        is("with m + 1", value(x), m + 1);
        is("no intent came", x.intentAt(0, 7, 0), NONE);
    }

    private static void writesAndVersions() {
        Rangehold x = alone();
        int[] its = {x.begin(0), x.begin(0), x.begin(0)};
        is("a reading ahead of the version", readAsOf(x, moment(x, its[0]), 6), OK);
        int writer = settled(x, 0, 5, 50, 6, 60, 7, 70);
        long version = moment(x, writer);
        is("a WRITE ahead of a version", write(x, its[0], 6, 1), LATE);
        is("the version is greater than the reading", value(x), version);
        is("a reading behind the version", readAsOf(x, version, 7), OK);
        is("a WRITE ahead of both", write(x, its[1], 7, 1), LATE);
        is("the reading is greater than the version", value(x), version + 1);
        is("a version alone", write(x, its[2], 5, 1), LATE);
        is("its moment", value(x), version);
        int behind = x.begin(0);
        is("a WRITE behind a version", write(x, behind, 5, 1), OK);
    }

    private static void writesThatComeTwice() {
        Rangehold x = alone();
        int it = x.begin(0);
        int write = x.write(it, 5, 50, 0, 0);
        x.twice(0);
        x.twice(0);
        is("a WRITE", ahead(x, write), OK);
        is("comes twice", ahead(x, write), OK);
        is("a value that is there stays", x.intentAt(0, 5, 1), 1);
        is("END", ahead(x, x.end(it, true, 0, 0)), OK);
        is("RESOLVE", ahead(x, x.resolve(0, it, 5, 0, 0)), OK);
        is("there is one REQUEST left", messages(x, Rangehold.REQUEST, 0), 1);
        calm(x);
        is("a version of its own moment is in the way", x.intentAt(0, 5, 0), NONE);
        is("one version", x.rangeAt(0, 4), 1);
        is("all entries were agreed on", x.rangeAt(0, 3), 6);
    }

    // END, PUSH, RESOLVE

    private static void endsOnce() {
        Rangehold x = alone();
        int it = x.begin(0);
        is("a WRITE", write(x, it, 5, 50), OK);
        int end = x.end(it, false, 0, 0);
        x.twice(0);
        is("END", answer(x, end), OK);
        is("ABORTED", value(x), Rangehold.ABORTED);
        is("one record", x.rangeAt(0, 6), 1);
        is("PUSH of an ABORTED one", answer(x, x.push(0, it, 0, 0)), OK);
        is("tells the record", value(x), Rangehold.ABORTED);
        int done = commit(x, 0, 6, 60);
        is("PUSH of a COMMITTED one, by a small k", answer(x, x.push(0, done, 0, 0)), OK);
        is("tells the record", value(x), Rangehold.COMMITTED);
        is("it stays COMMITTED", x.transactionAt(done, 5), 1);
        is("two records", x.rangeAt(0, 6), 2);
    }

    private static void pushes() {
        Rangehold x = alone();
        int it = x.begin(0);
        is("a WRITE", write(x, it, 5, 50), OK);
        is("its k", moment(x, it), 8 * 1200);
        x.pass(9);
        tellK(x, 2198, 9);
        is("PUSH by 999 more", answer(x, x.push(0, it, 0, 0)), WAITS);
        is("with the transaction", value(x), it);
        is("no use of the k", x.nodeAt(0, 4), 2198);
        is("no record", x.rangeAt(0, 6), 0);
        is("PUSH again: the k is the same", answer(x, x.push(0, it, 0, 0)), WAITS);
        tellK(x, 2199, 10);
        is("PUSH by 1000 more", answer(x, x.push(0, it, 0, 0)), OK);
        is("ABORTED", value(x), Rangehold.ABORTED);
        is("a record", x.rangeAt(0, 6), 1);
        is("the transaction knows nothing of it", x.transactionAt(it, 0), Rangehold.OPEN);
        is("END to be committed", answer(x, x.end(it, true, 0, 0)), OK);
        is("is ABORTED", x.transactionAt(it, 0), Rangehold.ABORTED);
        Rangehold y = alone();
        int old = y.begin(0);
        is("a WRITE", write(y, old, 5, 50), OK);
        y.pass(10);
        is("PUSH by what the clock shows: just 1000 more", answer(y, y.push(0, old, 0, 0)), OK);
        Rangehold z = alone();
        int young = z.begin(0);
        is("a WRITE", write(z, young, 5, 50), OK);
        int push = z.push(0, young, 0, 0);
        z.lose(0);
        z.pass(11);
        z.again(push, 0);
        is("a PUSH has the k of when it was asked", answer(z, push), WAITS);
    }

    private static void resolves() {
        Rangehold x = alone();
        int holder = x.begin(0);
        is("an intent of another one", write(x, holder, 6, 66), OK);
        int it = commit(x, 0, 5, 50);
        is("RESOLVE of a key with the intent of another one", answer(x, x.resolve(0, it, 6, 0, 0)), OK);
        is("changes nothing", x.intentAt(0, 6, 0), holder);
        is("RESOLVE of a key without an intent", answer(x, x.resolve(0, it, 7, 0, 0)), OK);
        is("brings no version", x.rangeAt(0, 4), 0);
        is("RESOLVE", answer(x, x.resolve(0, it, 5, 0, 0)), OK);
        is("a version of its moment", x.versionAt(0, 5, 0, false), moment(x, it));
        is("no intent", x.intentAt(0, 5, 0), NONE);
        int aborted = x.begin(0);
        is("a WRITE", write(x, aborted, 8, 80), OK);
        is("END", answer(x, x.end(aborted, false, 0, 0)), OK);
        is("RESOLVE of an ABORTED one", answer(x, x.resolve(0, aborted, 8, 0, 0)), OK);
        is("its intent went", x.intentAt(0, 8, 0), NONE);
        is("without a version", x.rangeAt(0, 4), 1);
    }

    // SPLIT

    private static void splitKeys() {
        int[] keys = {1, 31, 16};
        for (int key : keys) {
            Rangehold x = alone();
            is("SPLIT at " + key, answer(x, x.split(0, key, 0, 0)), OK);
            is("the range ends ahead of it", x.rangeAt(0, 1), key);
            is("the new one begins there", x.rangeAt(1, 0), key);
            is("and ends where that ended", x.rangeAt(1, 1), 32);
            is("the key ahead", x.ownerOf(key - 1), 0);
            is("the key", x.ownerOf(key), 1);
            is("SPLIT at the end", answer(x, x.split(0, key, 0, 0)), WRONG);
            x.pass(9);
            is("SPLIT at the first key", answer(x, x.split(0, key, 1, 0)), WRONG);
            is("no range more", x.count(3), 2);
        }
        Rangehold x = alone();
        is("SPLIT", answer(x, x.split(0, 2, 0, 0)), OK);
        is("SPLIT at the last key of it", answer(x, x.split(0, 1, 0, 0)), OK);
        is("a range of one key", x.rangeAt(0, 1), 1);
        is("cannot be split", answer(x, x.split(0, 1, 0, 0)), WRONG);
    }

    private static void splitTakesAlong() {
        Rangehold x = alone();
        int low = settled(x, 0, 15, 150, 16, 160);
        int high = settled(x, 0, 31, 310, 0, 1);
        int open = x.begin(0);
        is("an intent ahead", write(x, open, 14, 1), OK);
        is("an intent behind", write(x, open, 17, 2), OK);
        is("CLOSE", close(x, moment(x, high), 0), OK);
        is("SWEEP", sweep(x, moment(x, low), 0), OK);
        is("a reading", readAsOf(x, 800 * 15, 16), OK);
        is("SPLIT", answer(x, x.split(0, 16, 0, 0)), OK);
        is("versions that stay", x.rangeAt(0, 4), 2);
        is("versions that go", x.rangeAt(1, 4), 2);
        is("of the key of the SPLIT", x.versionAt(1, 16, 0, true), 160);
        is("of the last key", x.versionAt(1, 31, 0, true), 310);
        is("of the key ahead", x.versionAt(0, 15, 0, true), 150);
        is("intents that stay", x.rangeAt(0, 5), 1);
        is("an intent that stays has its value", x.intentAt(0, 14, 1), 1);
        is("intents that go", x.intentAt(1, 17, 0), open);
        is("with their anchor key", x.intentAt(1, 17, 2), 14);
        is("with their values", x.intentAt(1, 17, 1), 1);
        is("records by their anchor key: that of the key 15", x.rangeAt(0, 6), 1);
        is("that of the key 31", x.rangeAt(1, 6), 1);
        is("readings", x.intentAt(1, 16, 3), 800 * 15 + 1);
        is("readings of others", x.intentAt(1, 17, 3), moment(x, high) + 1);
        is("the closed moment", x.rangeAt(1, 8), moment(x, high));
        is("the floor", x.rangeAt(1, 9), moment(x, low));
        is("not frozen", x.rangeAt(1, 2), 0);
        is("no entries", x.rangeAt(1, 3), 0);
        is("its copy has the base 0", x.copyAt(0, 1, 2), 0);
        is("and the term 0", x.copyAt(0, 1, 0), 0);
        is("what is owned is as it was", x.errors(), 0);
        x.pass(9);
        is("it can be resolved there", answer(x, x.resolve(0, high, 31, 1, 0)), OK);
    }

    private static void splitAgain() {
        Rangehold x = alone();
        int split = x.split(0, 16, 0, 0);
        x.twice(0);
        x.twice(0);
        x.twice(0);
        bring(x, Rangehold.REQUEST, 0);
        x.lose(message(x, Rangehold.ANSWER, 0));
        x.pass(9);
        bring(x, Rangehold.REQUEST, 0);
        is("SPLIT again", ahead(x, split), OK);
        is("with the new range", x.askAt(split, 4), 1);
        is("and nothing else", x.count(3), 2);
        int freeze = x.freeze(0, 0, 1, 0);
        is("FREEZE", ahead(x, freeze), OK);
        int join = x.settleJoin(0, JOIN, freeze, 0);
        is("JOIN", ahead(x, join), OK);
        is("all keys are in the first range again", x.rangeAt(0, 1), 32);
        is("a REQUEST is left", messages(x, Rangehold.REQUEST, 0), 1);
        calm(x);
        is("the SPLIT that comes late splits nothing", x.rangeAt(0, 1), 32);
        is("the ranges", x.count(3), 2);
        is("errors", x.errors(), 0);
        Rangehold y = alone();
        int unheard = y.split(0, 16, 0, 0);
        bring(y, Rangehold.REQUEST, 0);
        hush(y);
        is("FREEZE", answer(y, y.freeze(0, 1, 0, 0)), OK);
        y.again(unheard, 0);
        is("FROZEN ahead of what was split off already", answer(y, unheard), FROZEN);
        is("without a value", y.askAt(unheard, 4), 0);
        is("the new range is there", y.count(3), 2);
    }

    /** What was split off is not told by the new range. */
    private static void splitOfSplit() {
        Rangehold x = alone();
        int first = x.split(0, 8, 0, 0);
        is("SPLIT", answer(x, first), OK);
        x.pass(9);
        is("SPLIT of the new range", answer(x, x.split(0, 16, 1, 0)), OK);
        is("three ranges", x.count(3), 3);
        is("the new range has the next number", x.rangeAt(2, 0), 16);
        int unheard = x.split(0, 4, 1, 0);
        is("a SPLIT that is WRONG has a number, too", answer(x, unheard), WRONG);
        is("SPLIT", answer(x, x.split(0, 4, 0, 0)), OK);
        is("the number behind", value(x), 4);
        is("the range 3 is not there", Calls.answer(x, "rangeAt", 3, 0).equals("IndexOutOfBoundsException"), true);
        is("there are four", x.count(3), 4);
    }

    /** Eight ranges, all of them there; they can be joined again, but no number comes back. */
    private static void eightRanges() {
        Rangehold x = alone();
        for (int range = 1; range < 8; range++) {
            is("SPLIT", answer(x, x.split(0, 32 - 4 * range, 0, 0)), OK);
            is("the new range", value(x), range);
            is("ranges", x.count(3), range + 1);
        }
        fails("a ninth", BAD_STATE, x, () -> x.split(0, 2, 0, 0));
        fails("rangeAt of a ninth", NO_SUCH_NUMBER, x, () -> x.rangeAt(8, 0));
        fails("copyAt of a ninth", NO_SUCH_NUMBER, x, () -> x.copyAt(0, 8, 0));
        is("copies", x.nodeAt(0, 3), 8);
        x.pass(9);
        is("LEADERs", x.count(12), 8);
        for (int key = 0; key < 32; key++) {
            int owner = key < 4 ? 0 : 8 - key / 4;
            is("the owner of " + key, x.ownerOf(key), owner);
            is("a READ there", answer(x, x.readAsOf(0, 0, key, owner, 0)), OK);
        }
        for (int range = 7; range > 0; range--) {
            int freeze = x.freeze(0, 0, range, 0);
            is("FREEZE", answer(x, freeze), OK);
            is("JOIN", settle(x, JOIN, freeze), OK);
        }
        is("all keys are in one range", x.rangeAt(0, 1), 32);
        is("all ranges are there", x.count(3), 8);
        fails("no number comes back", BAD_STATE, x, () -> x.split(0, 2, 0, 0));
        is("errors", x.errors(), 0);
    }

    // FREEZE, JOIN, REFUSE, THAW

    /** Ranges 0 (keys 0 to 15) and 1, both led by node 0. */
    private static Rangehold parted() {
        Rangehold x = alone();
        is("SPLIT", answer(x, x.split(0, 16, 0, 0)), OK);
        x.pass(9);
        return x;
    }

    private static void freezes() {
        Rangehold x = parted();
        int first = x.freeze(0, 0, 1, 0);
        bring(x, Rangehold.REQUEST, 0);
        hush(x);
        is("frozen", x.rangeAt(1, 2), 1);
        is("FREEZE by another epoch", answer(x, x.freeze(0, 0, 1, 0)), FROZEN);
        is("JOIN needs an answer OK: REFUSE does not", settle(x, REFUSE, first), OK);
        is("nor does THAW", settle(x, THAW, first), OK);
        is("not frozen", x.rangeAt(1, 2), 0);
        x.again(first, 0);
        is("FREEZE by an epoch that is not above the greatest one", answer(x, first), WRONG);
        is("not frozen", x.rangeAt(1, 2), 0);
        int second = x.freeze(0, 0, 1, 0);
        bring(x, Rangehold.REQUEST, 0);
        hush(x);
        x.again(second, 0);
        is("FREEZE by the epoch by which it is frozen", answer(x, second), OK);
        is("THAW by another epoch", settle(x, THAW, first), WRONG);
        is("frozen", x.rangeAt(1, 2), 1);
        is("JOIN", settle(x, JOIN, second), OK);
        is("joined", x.rangeAt(0, 1), 32);
        is("a range that was joined stays frozen", x.rangeAt(1, 2), 1);
        is("errors", x.errors(), 0);
    }

    /** The state that is joined is that of when the FREEZE froze, not of when it was FROZEN. */
    private static void freezesLater() {
        Rangehold x = parted();
        int first = x.freeze(0, 0, 1, 0);
        is("FREEZE", answer(x, first), OK);
        int second = x.freeze(0, 0, 1, 0);
        bring(x, Rangehold.REQUEST, 0);
        hush(x);
        is("REFUSE of the first one", settle(x, REFUSE, first), OK);
        is("THAW", settle(x, THAW, first), OK);
        int it = commit(x, 1, 20, 200);
        x.again(second, 0);
        is("FREEZE by the second one", answer(x, second), OK);
        is("JOIN", settle(x, JOIN, second), OK);
        is("what was written between is joined", x.intentAt(0, 20, 0), it);
        is("and held", x.heldAt(20), 200);
        is("errors", x.errors(), 0);
    }

    /** Lets node 1, which has nothing so far, lead a range of node 0: it gets its base. */
    private static void moved(Rangehold x, int range) {
        x.compact(0, range);
        is("ADD", answer(x, x.change(2, true, 1, range, 0)), OK);
        x.pass(3);
        calm(x);
        is("DROP", answer(x, x.change(2, false, 0, range, 0)), OK);
        for (int i = 0; i < 60 && roleOf(x, 1, range) != Rangehold.LEADER; i++) {
            x.pass(1);
            calm(x);
        }
        is("node 1 leads", roleOf(x, 1, range), Rangehold.LEADER);
    }

    private static Rangehold withOthers() {
        Rangehold x = alone();
        x.addNode(0);
        x.addNode(0);
        return x;
    }

    /** A base that is told has all: keys, moments, records, epochs. */
    private static void basesTold() {
        Rangehold x = withOthers();
        is("SPLIT", answer(x, x.split(2, 16, 0, 0)), OK);
        x.pass(9);
        int first = settled(x, 0, 0, 1, 15, 2);
        int open = x.begin(2);
        x.pass(3);
        int it = x.begin(2);
        is("an intent on the first key", answer(x, x.write(it, 0, 10, 0, 0)), OK);
        is("and on another one", answer(x, x.write(it, 14, 20, 0, 0)), OK);
        is("END", answer(x, x.end(it, true, 0, 0)), OK);
        is("a reading", answer(x, x.readAsOf(2, 800 * 25, 3, 0, 0)), OK);
        is("CLOSE", close(x, moment(x, first) + 1, 0), OK);
        is("SWEEP", sweep(x, moment(x, first), 0), OK);
        int refused = x.freeze(2, 0, 1, 0);
        is("FREEZE", answer(x, refused), OK);
        is("REFUSE", answer(x, x.settleJoin(2, REFUSE, refused, 0)), OK);
        is("THAW", answer(x, x.settleJoin(2, THAW, refused, 0)), OK);
        int joined = x.freeze(2, 0, 1, 0);
        is("FREEZE", answer(x, joined), OK);
        is("JOIN", answer(x, x.settleJoin(2, JOIN, joined, 0)), OK);
        is("the closed moment is the lesser one of both", x.rangeAt(0, 8), 0);
        is("CLOSE", close(x, moment(x, first) + 1, 0), OK);
        moved(x, 0);
        is("JOIN of what was refused", answer(x, x.settleJoin(2, JOIN, refused, 1)), REFUSED);
        is("JOIN of what was joined", answer(x, x.settleJoin(2, JOIN, joined, 1)), OK);
        is("REFUSE of what was joined", answer(x, x.settleJoin(2, REFUSE, joined, 1)), JOINED);
        is("below the floor", answer(x, x.readAsOf(2, moment(x, first) - 1, 0, 0, 1)), GONE);
        is("at the floor", answer(x, x.readAsOf(2, moment(x, first), 0, 0, 1)), OK);
        is("a version", value(x), 1);
        is("behind it is an intent", answer(x, x.readAsOf(2, 800 * 26, 0, 0, 1)), WAITS);
        is("its transaction", value(x), it);
        is("another one", answer(x, x.readAsOf(2, 800 * 26, 14, 0, 1)), WAITS);
        is("LOOK above the closed moment", answer(x, x.asOf(2, Rangehold.LOOK, 1 + moment(x, first) + 1, 15, 0, 1)), Rangehold.UNKNOWN);
        is("LOOK at it", answer(x, x.asOf(2, Rangehold.LOOK, moment(x, first) + 1, 15, 0, 1)), OK);
        is("a version", value(x), 2);
        is("a WRITE ahead of a reading", answer(x, x.write(open, 3, 1, 0, 1)), LATE);
        is("its moment", value(x), 800 * 25 + 1);
        is("a record", answer(x, x.push(2, it, 0, 1)), OK);
        is("RESOLVE", answer(x, x.resolve(2, it, 0, 0, 1)), OK);
        is("a version by it", answer(x, x.readAsOf(2, 800 * 26, 0, 0, 1)), OK);
        is("with its value", value(x), 10);
        is("errors", x.errors(), 0);
    }

    private static void frozenBasesTold() {
        Rangehold x = withOthers();
        is("SPLIT", answer(x, x.split(2, 16, 0, 0)), OK);
        x.pass(9);
        int first = x.freeze(2, 0, 1, 0);
        bring(x, Rangehold.REQUEST, 0);
        hush(x);
        is("REFUSE", answer(x, x.settleJoin(2, REFUSE, first, 0)), OK);
        is("THAW", answer(x, x.settleJoin(2, THAW, first, 0)), OK);
        int second = x.freeze(2, 0, 1, 0);
        is("FREEZE", answer(x, second), OK);
        is("REFUSE", answer(x, x.settleJoin(2, REFUSE, second, 0)), OK);
        moved(x, 1);
        is("frozen", answer(x, x.readAsOf(2, 0, 16, 1, 1)), FROZEN);
        is("not by the first epoch", answer(x, x.settleJoin(2, THAW, first, 1)), WRONG);
        is("by the second one", answer(x, x.settleJoin(2, THAW, second, 1)), OK);
        is("as it was", answer(x, x.readAsOf(2, 0, 16, 1, 1)), OK);
        x.again(first, 1);
        is("the greatest epoch is that of the second one", answer(x, first), WRONG);
        is("errors", x.errors(), 0);
    }

    /** All that a range holds is in a base, and there when its node starts again. */
    private static Rangehold started(Rangehold x, int range) {
        x.compact(0, range);
        x.stop(0, false);
        x.start(0);
        x.pass(9);
        calm(x);
        is("it leads again", x.copyAt(0, range, 1), Rangehold.LEADER);
        return x;
    }

    private static void basesOfKeys() {
        Rangehold x = alone();
        x.addNode(3);
        int[] keys = {0, 7, 31};
        for (int key : keys) {
            settled(x, 0, key, key + 1);
        }
        int open = x.begin(1);
        for (int key : keys) {
            is("an intent", answer(x, x.write(open, key, -key, 0, 0)), OK);
        }
        int done = x.begin(1);
        is("a WRITE", answer(x, x.write(done, 9, 90, 0, 0)), OK);
        is("END", answer(x, x.end(done, true, 0, 0)), OK);
        is("CLOSE", close(x, moment(x, done) + 5, 0), OK);
        is("SWEEP", sweep(x, 70, 0), OK);
        started(x, 0);
        is("closed", x.resolved(0, 0), moment(x, open) - 1);
        is("versions", x.feedAt(0, 0, 70, 0, 0), 3);
        for (int i = 0; i < keys.length; i++) {
            is("an intent on " + keys[i], answer(x, x.readAsOf(1, 800 * 16, keys[i], 0, 0)), WAITS);
            is("of its transaction", value(x), open);
            is("its own value", answer(x, x.read(open, keys[i], 0, 0)), OK);
            is("of " + keys[i], value(x), -keys[i]);
            is("a version", x.feedAt(0, 0, 70, i, 3), keys[i] + 1);
        }
        is("a record", answer(x, x.push(1, done, 0, 0)), OK);
        is("COMMITTED", value(x), Rangehold.COMMITTED);
        is("RESOLVE", answer(x, x.resolve(1, done, 9, 0, 0)), OK);
        is("a version", answer(x, x.readAsOf(1, 800 * 20, 9, 0, 0)), OK);
        is("of its value", value(x), 90);
        is("the floor", answer(x, x.readAsOf(1, 69, 3, 0, 0)), GONE);
        is("is 70", value(x), 70);
        is("errors", x.errors(), 0);
    }

    private static void basesOfReadings() {
        Rangehold x = alone();
        x.addNode(0);
        int it = x.begin(1);
        is("a reading", answer(x, x.readAsOf(1, 800 * 19, 0, 0, 0)), OK);
        is("a reading", answer(x, x.readAsOf(1, 800 * 19, 31, 0, 0)), OK);
        started(x, 0);
        is("a WRITE ahead of a reading", answer(x, x.write(it, 31, 1, 0, 0)), LATE);
        is("its moment", value(x), 800 * 19 + 1);
    }

    private static void basesOfEpochs() {
        Rangehold x = alone();
        x.addNode(0);
        is("SPLIT", answer(x, x.split(1, 16, 0, 0)), OK);
        x.pass(9);
        int first = x.freeze(1, 0, 1, 0);
        bring(x, Rangehold.REQUEST, 0);
        hush(x);
        started(x, 1);
        is("frozen still", answer(x, x.readAsOf(1, 0, 16, 1, 0)), FROZEN);
        is("by another epoch", answer(x, x.freeze(1, 0, 1, 0)), FROZEN);
        started(x, 0);
        is("REFUSE", answer(x, x.settleJoin(1, REFUSE, first, 0)), OK);
        started(x, 1);
        is("THAW", answer(x, x.settleJoin(1, THAW, first, 0)), OK);
        started(x, 1);
        x.again(first, 0);
        is("the greatest epoch", answer(x, first), WRONG);
        int second = x.freeze(1, 0, 1, 0);
        is("FREEZE", answer(x, second), OK);
        started(x, 0);
        is("JOIN", answer(x, x.settleJoin(1, JOIN, second, 0)), OK);
        started(x, 0);
        is("what was joined", answer(x, x.settleJoin(1, REFUSE, second, 0)), JOINED);
        is("JOIN again", answer(x, x.settleJoin(1, JOIN, second, 0)), OK);
        is("errors", x.errors(), 0);
        Rangehold y = alone();
        y.addNode(0);
        is("SPLIT", answer(y, y.split(1, 16, 0, 0)), OK);
        y.pass(9);
        int freeze = y.freeze(1, 0, 1, 0);
        is("FREEZE", answer(y, freeze), OK);
        is("REFUSE", answer(y, y.settleJoin(1, REFUSE, freeze, 0)), OK);
        started(y, 0);
        is("what was refused", answer(y, y.settleJoin(1, JOIN, freeze, 0)), REFUSED);
    }

    /** What was split off is in a base, too: a SPLIT that comes late does nothing else. */
    private static void basesOfSplits() {
        Rangehold x = alone();
        x.addNode(0);
        int split = x.split(1, 16, 0, 0);
        bring(x, Rangehold.REQUEST, 0);
        hush(x);
        x.pass(9);
        int freeze = x.freeze(1, 0, 1, 0);
        is("FREEZE", answer(x, freeze), OK);
        is("JOIN", answer(x, x.settleJoin(1, JOIN, freeze, 0)), OK);
        started(x, 0);
        x.again(split, 0);
        is("SPLIT again", answer(x, split), OK);
        is("nothing else", answer(x, x.readAsOf(1, 0, 16, 0, 0)), OK);
        is("errors", x.errors(), 0);
    }

    /** The last asks, and asks that are 64 apart, are as all others. */
    private static void lastAsks() {
        Rangehold x = alone();
        int it = x.begin(0);
        int other = x.begin(0);
        flood(x, 400);
        is("a WRITE", write(x, it, 5, 50), OK);
        flood(x, 464);
        is("64 asks later", write(x, other, 6, 60), OK);
        is("END", answer(x, x.end(it, false, 0, 0)), OK);
        is("RESOLVE", answer(x, x.resolve(0, it, 5, 0, 0)), OK);
        is("the other one has its value", x.intentAt(0, 6, 1), 1);
        is("the first one is gone", x.intentAt(0, 5, 1), NONE);
        flood(x, 496);
        is("one of the last asks", write(x, other, 31, 310), OK);
        is("a second value", x.intentAt(0, 31, 1), 1);
        is("the last but two", answer(x, x.read(other, 31, 0, 0)), OK);
        is("the own value", value(x), 310);
        is("END", answer(x, x.end(other, true, 0, 0)), OK);
        is("the last ask", answer(x, x.resolve(0, other, 31, 0, 0)), OK);
        is("asks", x.count(7), 500);
        is("a version", x.versionAt(0, 31, 0, true), 310);
        is("held", x.heldAt(6), 60);
        is("errors", x.errors(), 0);
    }

    private static void lastEpochs() {
        int[] firsts = {100, 431};
        for (int first : firsts) {
            Rangehold x = parted();
            flood(x, first);
            int early = x.freeze(0, 0, 1, 0);
            is("FREEZE", answer(x, early), OK);
            is("REFUSE", settle(x, REFUSE, early), OK);
            is("THAW", settle(x, THAW, early), OK);
            flood(x, first + 64);
            int late = x.freeze(0, 0, 1, 0);
            is("64 asks later", late - early, 64);
            is("FREEZE", answer(x, late), OK);
            is("JOIN of what was refused", settle(x, JOIN, early), REFUSED);
            is("JOIN of what was not", settle(x, JOIN, late), OK);
            is("REFUSE of what was joined", settle(x, REFUSE, late), JOINED);
            is("REFUSE of what was not", settle(x, REFUSE, early), OK);
        }
    }

    private static void joinsOnce() {
        Rangehold x = parted();
        int freeze = x.freeze(0, 0, 1, 0);
        is("FREEZE", answer(x, freeze), OK);
        is("JOIN", settle(x, JOIN, freeze), OK);
        is("REFUSE of what was joined", settle(x, REFUSE, freeze), JOINED);
        int it = x.begin(0);
        is("a WRITE where it was joined", write(x, it, 20, 200), OK);
        is("JOIN again", settle(x, JOIN, freeze), OK);
        is("the state of the FREEZE is not taken again", x.intentAt(0, 20, 0), it);
        is("FREEZE of the joined range", answer(x, x.freeze(0, 1, 0, 0)), OK);
        is("JOIN that was done, though it is frozen", settle(x, JOIN, freeze), OK);
        is("REFUSE in a frozen range", settle(x, REFUSE, freeze), JOINED);
        is("THAW needs a REFUSE that was answered OK", Calls.answer(x, "settleJoin", 0, THAW, freeze, 0).equals("IllegalStateException"), true);
    }

    private static void refusesOnce() {
        Rangehold x = parted();
        int freeze = x.freeze(0, 0, 1, 0);
        is("FREEZE", answer(x, freeze), OK);
        is("FREEZE of the other range", answer(x, x.freeze(0, 1, 0, 0)), OK);
        is("JOIN into a frozen range", settle(x, JOIN, freeze), FROZEN);
        is("REFUSE in a frozen range", settle(x, REFUSE, freeze), OK);
        is("REFUSE again", settle(x, REFUSE, freeze), OK);
        is("REFUSED ahead of FROZEN", settle(x, JOIN, freeze), REFUSED);
        is("THAW", settle(x, THAW, freeze), OK);
        is("THAW again", settle(x, THAW, freeze), WRONG);
        is("it owns its keys again", x.ownerOf(16), 1);
        is("the other one does not", x.ownerOf(15), NONE);
    }

    private static void joinsWhatIsNext() {
        Rangehold x = parted();
        is("SPLIT", answer(x, x.split(0, 24, 1, 0)), OK);
        x.pass(9);
        int far = x.freeze(0, 0, 2, 0);
        is("FREEZE", answer(x, far), OK);
        is("JOIN of what begins behind the next range", settle(x, JOIN, far), WRONG);
        is("nothing was joined", x.rangeAt(0, 1), 16);
        is("REFUSE of what was WRONG", settle(x, REFUSE, far), OK);
        int ahead = x.freeze(0, 1, 0, 0);
        is("FREEZE", answer(x, ahead), OK);
        is("JOIN of what is ahead", settle(x, JOIN, ahead), WRONG);
        is("REFUSE", settle(x, REFUSE, ahead), OK);
        is("THAW", settle(x, THAW, ahead), OK);
        int next = x.freeze(0, 0, 1, 0);
        is("FREEZE", answer(x, next), OK);
        is("JOIN of the next range", settle(x, JOIN, next), OK);
        is("ends where that ended", x.rangeAt(0, 1), 24);
        is("THAW of the far one", settle(x, THAW, far), OK);
        int last = x.freeze(0, 0, 2, 0);
        is("FREEZE", answer(x, last), OK);
        is("JOIN of what is the next one by now", settle(x, JOIN, last), OK);
        is("all keys", x.rangeAt(0, 1), 32);
        for (int key = 0; key < 32; key++) {
            is("the owner of " + key, x.ownerOf(key), 0);
        }
    }

    private static void joinedMoments() {
        for (int greater = 0; greater < 2; greater++) {
            Rangehold x = parted();
            is("CLOSE", close(x, 100, greater), OK);
            is("SWEEP", sweep(x, 50, greater), OK);
            is("CLOSE", close(x, 70, 1 - greater), OK);
            is("SWEEP", sweep(x, 60, 1 - greater), OK);
            int freeze = x.freeze(0, 0, 1, 0);
            is("FREEZE", answer(x, freeze), OK);
            is("JOIN", settle(x, JOIN, freeze), OK);
            is("the closed moment is the lesser one of both", x.rangeAt(0, 8), 70);
            is("the floor is the greater one of both", x.rangeAt(0, 9), 60);
            is("the moments of reading stay", x.intentAt(0, 15, 3), greater == 0 ? 101 : 71);
            is("the joined ones, too", x.intentAt(0, 16, 3), greater == 0 ? 71 : 101);
        }
    }

    private static void joinTakesAll() {
        Rangehold x = parted();
        int left = settled(x, 0, 15, 150);
        int right = settled(x, 1, 16, 160, 31, 310);
        int open = x.begin(0);
        is("an intent", answer(x, x.write(open, 17, 170, 1, 0)), OK);
        is("a second value", answer(x, x.write(open, 17, 171, 1, 0)), OK);
        is("a reading", answer(x, x.readAsOf(0, 800 * 20, 18, 1, 0)), OK);
        int freeze = x.freeze(0, 0, 1, 0);
        is("FREEZE", answer(x, freeze), OK);
        is("JOIN", settle(x, JOIN, freeze), OK);
        is("versions", x.rangeAt(0, 4), 3);
        is("records", x.rangeAt(0, 6), 2);
        is("the moment of a version", x.versionAt(0, 31, 0, false), moment(x, right));
        is("what was there stays", x.versionAt(0, 15, 0, false), moment(x, left));
        is("the intent", x.intentAt(0, 17, 0), open);
        is("its values", x.intentAt(0, 17, 1), 2);
        is("the reading", x.intentAt(0, 18, 3), 800 * 20 + 1);
        is("END where it was joined", answer(x, x.end(open, true, 0, 0)), OK);
        is("RESOLVE", answer(x, x.resolve(0, open, 17, 0, 0)), OK);
        is("the value under its number", x.versionAt(0, 17, 0, true), 171);
        is("errors", x.errors(), 0);
        is("agrees", x.agrees(), true);
    }

    // SCAN, CLOSE, SWEEP

    private static void scans() {
        Rangehold x = alone();
        settled(x, 0, 4, 40, 5, 50, 7, 70, 8, 80);
        int first = x.begin(0);
        int second = x.begin(0);
        is("an intent on the key ahead", write(x, first, 3, 1), OK);
        is("and on the key behind", write(x, second, 8, 2), OK);
        int it = x.begin(0);
        int scan = x.scan(it, 4, 8, 0, 0);
        is("a SCAN between them", answer(x, scan), OK);
        is("its keys", x.scanAt(scan, 0, 0), 3);
        is("the first one", x.scanAt(scan, 0, 2), 4);
        is("the last one", x.scanAt(scan, 2, 2), 7);
        is("covered", x.scanAt(scan, 0, 1), 8);
        is("the key ahead was not read", x.intentAt(0, 3, 3), 0);
        is("the first one was", x.intentAt(0, 4, 3), moment(x, it));
        is("one without a value, too", x.intentAt(0, 6, 3), moment(x, it));
        is("the last one", x.intentAt(0, 7, 3), moment(x, it));
        is("the key behind was not", x.intentAt(0, 8, 3), 0);
        is("a SCAN from the key ahead", answer(x, x.scan(it, 3, 8, 0, 0)), WAITS);
        is("with its transaction", value(x), first);
        is("a SCAN up to the key behind", answer(x, x.scan(it, 4, 9, 0, 0)), WAITS);
        is("with its transaction", value(x), second);
        is("a SCAN over both", answer(x, x.scan(it, 0, 32, 0, 0)), WAITS);
        is("with that of the least key", value(x), first);
        is("it reads nothing", x.intentAt(0, 9, 3), 0);
        int one = x.scan(it, 5, 6, 0, 0);
        is("a SCAN of one key", answer(x, one), OK);
        is("it has one", x.scanAt(one, 0, 0), 1);
        is("covered", x.scanAt(one, 0, 1), 6);
        int empty = x.scan(it, 31, 32, 0, 0);
        is("a SCAN of the last key", answer(x, empty), OK);
        is("without a value", x.scanAt(empty, 0, 0), 0);
        is("covered", x.scanAt(empty, 0, 1), 32);
        is("has no key", Calls.answer(x, "scanAt", empty, 0, 2).equals("NoSuchElementException"), true);
        is("what a SCAN that waits has", Calls.answer(x, "scanAt", scan + 1, 0, 0).equals("NoSuchElementException"), true);
    }

    private static void scansOfIntents() {
        Rangehold x = alone();
        settled(x, 0, 4, 40, 5, 50);
        int early = x.begin(0);
        int holder = x.begin(0);
        is("an intent", write(x, holder, 5, 51), OK);
        is("a SCAN of a lesser moment", answer(x, x.scan(early, 0, 32, 0, 0)), OK);
        is("sees what was ahead", x.scanAt(x.count(7) - 1, 1, 3), 50);
        int it = x.begin(0);
        is("an own WRITE of nothing", write(x, it, 4, ABSENT), OK);
        is("an own WRITE", write(x, it, 3, 30), OK);
        int scan = x.scan(it, 0, 5, 0, 0);
        is("a SCAN of own writes", answer(x, scan), OK);
        is("one key", x.scanAt(scan, 0, 0), 1);
        is("with the own value", x.scanAt(scan, 0, 3), 30);
        is("what it read", x.intentAt(0, 4, 3), moment(x, it));
    }

    private static void scansToTheEnd() {
        Rangehold x = alone();
        is("SPLIT", answer(x, x.split(0, 16, 0, 0)), OK);
        int it = x.begin(0);
        int scan = x.scan(it, 15, 32, 0, 0);
        is("a SCAN from the last key of a range", answer(x, scan), OK);
        is("covers to its end", x.scanAt(scan, 0, 1), 16);
        is("a SCAN from its end", answer(x, x.scan(it, 16, 32, 0, 0)), WRONG);
        int inside = x.scan(it, 0, 16, 0, 0);
        is("a SCAN just to its end", answer(x, inside), OK);
        is("covers all", x.scanAt(inside, 0, 1), 16);
    }

    private static void closes() {
        Rangehold x = alone();
        is("a reading", readAsOf(x, 100, 5), OK);
        is("a later reading", readAsOf(x, 101, 6), OK);
        is("CLOSE", close(x, 101, 0), OK);
        is("closed", x.rangeAt(0, 8), 101);
        is("a lesser reading becomes m + 1", x.intentAt(0, 5, 3), 102);
        is("one of m + 1 stays", x.intentAt(0, 6, 3), 102);
        is("the first key", x.intentAt(0, 0, 3), 102);
        is("the last key", x.intentAt(0, 31, 3), 102);
        is("a reading behind", readAsOf(x, 200, 7), OK);
        is("CLOSE at a lesser moment", close(x, 100, 0), OK);
        is("closed as it was", x.rangeAt(0, 8), 101);
        is("CLOSE at a greater one", close(x, 102, 0), OK);
        is("closed", x.rangeAt(0, 8), 102);
        is("a greater reading stays", x.intentAt(0, 7, 3), 201);
        is("CLOSE at the last moment", close(x, 800 * 19, 0), OK);
        is("closed", x.rangeAt(0, 8), 800 * 19);
        Rangehold y = alone();
        is("CLOSE at 0", close(y, 0, 0), OK);
        is("is not more than 0", y.rangeAt(0, 8), 0);
        is("but a reading of 1", y.intentAt(0, 5, 3), 1);
        int it = y.begin(0);
        is("CLOSE at the moment ahead", close(y, moment(y, it) - 1, 0), OK);
        is("a WRITE behind a closed moment", write(y, it, 5, 5), OK);
        is("CLOSE at its moment", close(y, moment(y, it), 0), OK);
        is("a WRITE at a closed moment", write(y, it, 6, 6), LATE);
        is("with this moment and 1", value(y), moment(y, it) + 1);
    }

    private static void sweeps() {
        Rangehold x = alone();
        long first = moment(x, settled(x, 0, 5, 50, 6, 60, 7, 70));
        long second = moment(x, settled(x, 0, 5, 51, 6, ABSENT, 8, 80));
        long third = moment(x, settled(x, 0, 5, 52, 6, 62));
        is("versions", x.rangeAt(0, 4), 8);
        is("CLOSE", close(x, third, 0), OK);
        is("SWEEP above the closed moment", sweep(x, third + 1, 0), WRONG);
        is("no floor", x.rangeAt(0, 9), 0);
        is("SWEEP ahead of all", sweep(x, first - 1, 0), OK);
        is("the floor", x.rangeAt(0, 9), first - 1);
        is("nothing went", x.rangeAt(0, 4), 8);
        is("SWEEP at the first moment", sweep(x, first, 0), OK);
        is("the greatest one of each key stays", x.rangeAt(0, 4), 8);
        is("SWEEP ahead of the second one", sweep(x, second - 1, 0), OK);
        is("nothing went", x.rangeAt(0, 4), 8);
        is("SWEEP at the second moment", sweep(x, second, 0), OK);
        is("older ones went, and what tells that a key is not there", x.rangeAt(0, 4), 5);
        is("the key 5 has", x.versionAt(0, 5, 0, true), 51);
        is("and", x.versionAt(0, 5, 1, true), 52);
        is("the key 6 has what is behind alone", x.versionAt(0, 6, 0, true), 62);
        is("the key 7 has the only one", x.versionAt(0, 7, 0, true), 70);
        is("SWEEP at a lesser moment", sweep(x, first, 0), OK);
        is("the floor does not sink", x.rangeAt(0, 9), second);
        is("nothing went", x.rangeAt(0, 4), 5);
        is("SWEEP at the closed moment", sweep(x, third, 0), OK);
        is("one of each key", x.rangeAt(0, 4), 4);
        is("all is held as it was", x.heldAt(5), 52);
        is("errors", x.errors(), 0);
    }

    private static void sweepsEachKey() {
        for (int key = 0; key < 32; key++) {
            Rangehold x = alone();
            settled(x, 0, key, 1);
            long moment = moment(x, settled(x, 0, key, 2));
            is("CLOSE", close(x, moment, 0), OK);
            is("two versions", x.rangeAt(0, 4), 2);
            is("SWEEP", sweep(x, moment, 0), OK);
            is("one version of " + key, x.rangeAt(0, 4), 1);
            is("the greater one", x.versionAt(0, key, 0, true), 2);
        }
    }

    private static void sweptIntents() {
        Rangehold x = alone();
        int it = commit(x, 0, 5, 50);
        is("CLOSE", close(x, moment(x, it), 0), OK);
        is("SWEEP", sweep(x, moment(x, it), 0), OK);
        is("an intent stays", x.intentAt(0, 5, 0), it);
        is("RESOLVE", answer(x, x.resolve(0, it, 5, 0, 0)), OK);
        is("a version at the floor", x.versionAt(0, 5, 0, false), moment(x, it));
        is("a read as of the floor", readAsOf(x, moment(x, it), 5), OK);
        is("sees it", value(x), 50);
    }

    public static void main(String[] args) {
        clocks();
        toldMoments();
        toldByGone();
        disks();
        readsAndIntents();
        readingMoments();
        readVersions();
        ownWrites();
        gone();
        frozenAndWrong();
        writesAndIntents();
        writesAndReadings();
        writesAndVersions();
        writesThatComeTwice();
        endsOnce();
        pushes();
        resolves();
        splitKeys();
        splitTakesAlong();
        splitAgain();
        splitOfSplit();
        eightRanges();
        freezes();
        freezesLater();
        basesOfKeys();
        basesOfReadings();
        basesOfEpochs();
        basesOfSplits();
        basesTold();
        frozenBasesTold();
        lastAsks();
        lastEpochs();
        joinsOnce();
        refusesOnce();
        joinsWhatIsNext();
        joinedMoments();
        joinTakesAll();
        scans();
        scansOfIntents();
        scansToTheEnd();
        closes();
        sweeps();
        sweepsEachKey();
        sweptIntents();
        finish("CommandEdges");
    }
}
