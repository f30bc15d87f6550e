/** The edges that section 11 names: how a job goes on, what it believes, and how it ends. */
public final class JobEdges extends Checks {
    private static final int RUNS = Rangehold.RUNS, DONE = Rangehold.DONE, FELL = Rangehold.FELL, GIVEN_UP = Rangehold.GIVEN_UP, MANY = Rangehold.MANY;
    private static final int READ = Rangehold.READ, WRITE = Rangehold.WRITE, SCAN = Rangehold.SCAN, END = Rangehold.END, PUSH = Rangehold.PUSH, RESOLVE = Rangehold.RESOLVE;
    private static final int WAITS = Rangehold.WAITS, LATE = Rangehold.LATE, WRONG = Rangehold.WRONG, GONE = Rangehold.GONE;
    private static final int NOT_LEADER = Rangehold.NOT_LEADER, NO_COPY = Rangehold.NO_COPY, FROZEN = Rangehold.FROZEN;
    private static final int WORKS = 0, PUSHES = 1, CLEANS = 2, TELLS = 3;

    private static Rangehold program(Rangehold x, String statements) {
        return with(x, "tx job{" + statements + "}");
    }

    private static int job(Rangehold x, int what) {
        return x.jobAt(0, what);
    }

    private static int ask(Rangehold x) {
        return x.jobAt(0, 8);
    }

    /** The job 0 asks this command now. */
    private static void asks(Rangehold x, int command) {
        is("it has an ask", ask(x) != NONE, true);
        is("its command", x.askAt(Math.max(0, ask(x)), 0), command);
    }

    private static void asks(Rangehold x, int command, int key) {
        asks(x, command);
        is("its key", x.askAt(Math.max(0, ask(x)), 6), key);
    }

    /** The ask of the job 0 is answered so. */
    private static void answered(Rangehold x, long due) {
        int it = ask(x);
        ahead(x, it);
        for (int i = 0; i < 50 && x.askAt(it, 3) == NONE; i++) {
            bringGroups(x);
            ahead(x, it);
        }
        is("the answer", x.askAt(it, 3), due);
    }

    /** Delivers a message between members. */
    private static void bringGroups(Rangehold x) {
        for (int i = 0; i < x.count(9); i++) {
            if (x.messageAt(i, 0) < Rangehold.REQUEST) {
                x.deliver(i);
                return;
            }
        }
    }

    private static void rests(Rangehold x) {
        is("it rests: no ask", ask(x), NONE);
        is("it RUNS", job(x, 0), RUNS);
    }

    private static int node(Rangehold x, int message) {
        return x.messageAt(message, 2);
    }

    private static int last(Rangehold x) {
        return x.count(9) - 1;
    }

    // its beginning and its end

    private static void plain() {
        Rangehold x = program(alone(), "get x 1;put 2,x+a;give x+b;");
        is("run", x.run(0, 0, 5, 7), 0);
        is("RUNS", job(x, 0), RUNS);
        is("node", job(x, 1), 0);
        is("program", job(x, 2), 0);
        is("begun once", job(x, 3), 1);
        is("gave nothing", job(x, 4), 0);
        is("did not fall", job(x, 5), 0);
        is("its transaction", job(x, 6), 0);
        is("its moment", x.transactionAt(0, 2), 9600);
        is("WORKS", job(x, 7), WORKS);
        asks(x, READ, 1);
        is("for the range 0", x.askAt(ask(x), 2), 0);
        answered(x, OK);
        asks(x, WRITE, 2);
        is("its number", x.count(7), 2);
        answered(x, OK);
        is("its value", x.operationAt(0, 1, 2), 5);
        asks(x, END);
        is("WORKS", job(x, 7), WORKS);
        answered(x, OK);
        is("CLEANS", job(x, 7), CLEANS);
        asks(x, RESOLVE, 2);
        answered(x, OK);
        is("TELLS", job(x, 7), TELLS);
        rests(x);
        is("gave nothing so far", job(x, 4), 0);
        x.pass(6);
        is("100 * (15 - 3) is not above its k", job(x, 0), RUNS);
        x.pass(1);
        is("DONE", job(x, 0), DONE);
        is("gave", job(x, 4), 7);
        is("TELLS, as it was last", job(x, 7), TELLS);
        is("told", x.transactionAt(0, 6), 1);
        is("DONE jobs", x.count(16), 1);
        x.stop(0, false);
        is("DONE stays when its node stops", job(x, 0), DONE);
        is("gave", job(x, 4), 7);
    }

    private static void toldByOthers() {
        Rangehold x = program(alone(), "give 3;");
        x.run(0, 0, 0, 0);
        is("without an anchor key it TELLS at once", job(x, 7), TELLS);
        is("COMMITTED", x.transactionAt(0, 0), Rangehold.COMMITTED);
        is("no ask", x.count(7), 0);
        x.setClock(0, 3);
        x.pass(3);
        is("RUNS", job(x, 0), RUNS);
        x.setClock(0, 3);
        is("at the time 12 its clock shows 15", x.tell(0), false);
        x.pass(1);
        is("at the time 13 it shows 16", job(x, 0), DONE);
        Rangehold y = program(alone(), "give 3;");
        y.run(0, 0, 0, 0);
        y.pass(4);
        y.setClock(0, 3);
        is("tell() tells a job's transaction", y.tell(0), true);
        is("the job knows nothing of it", job(y, 0), RUNS);
        y.setClock(0, -3);
        y.pass(1);
        is("till the next tick", job(y, 0), DONE);
    }

    /** At the ANSWER that makes it TELL it can be DONE at once. */
    private static void toldAtOnce() {
        Rangehold x = program(alone(), "put 1,1;give 3;");
        x.run(0, 0, 0, 0);
        answered(x, OK);
        answered(x, OK);
        asks(x, RESOLVE, 1);
        x.setClock(0, -3);
        x.pass(5);
        x.setClock(0, 3);
        answered(x, OK);
        is("DONE", job(x, 0), DONE);
        is("gave", job(x, 4), 3);
    }

    private static void stops() {
        Rangehold x = program(alone(), "if a{fail;}put 1,1;");
        x.run(0, 0, 1, 0);
        is("FELL without an anchor key", job(x, 0), FELL);
        is("with FAILED", job(x, 5), Rangehold.FAILED);
        is("its transaction is ABORTED at once", x.transactionAt(0, 0), Rangehold.ABORTED);
        is("no ask", x.count(7), 0);
        x.run(0, 0, 0, 0);
        x.run(0, 0, 0, 0);
        is("asks that are LOST", x.stop(0, true), 2);
        is("FELL stays", job(x, 0), FELL);
        is("with this", job(x, 5), Rangehold.FAILED);
        is("GIVEN_UP", x.jobAt(1, 0), GIVEN_UP);
        is("did not fall", x.jobAt(1, 5), 0);
        is("gave nothing", x.jobAt(1, 4), 0);
        is("as it was last", x.jobAt(1, 7), WORKS);
        is("its transaction", x.transactionAt(1, 0), Rangehold.LOST);
        x.start(0);
        x.pass(30);
        is("GIVEN_UP for ever", x.jobAt(1, 0), GIVEN_UP);
        is("it asks no more", x.count(7), 2);
    }

    private static void stopsTheFirst() {
        Rangehold x = program(alone(), "get x 1;");
        x.run(0, 0, 0, 0);
        is("an ask is LOST", x.stop(0, false), 1);
        is("GIVEN_UP", job(x, 0), GIVEN_UP);
        is("no ask", ask(x), NONE);
        is("its transaction", job(x, 6), 0);
        Rangehold y = program(three(), "get x 1;");
        y.run(0, 0, 0, 0);
        y.run(1, 0, 0, 0);
        y.stop(1, false);
        is("that of another node RUNS", job(y, 0), RUNS);
        is("GIVEN_UP", y.jobAt(1, 0), GIVEN_UP);
    }

    private static void falls(String statements, int due) {
        Rangehold x = program(alone(), "put 1,1;" + statements);
        x.run(0, 0, 0, 0);
        answered(x, OK);
        asks(x, END);
        is("it falls, but is aborted first", job(x, 0), RUNS);
        is("how it fell is told when it did", job(x, 5), 0);
        answered(x, OK);
        is(statements, job(x, 0), FELL);
        is("how", job(x, 5), due);
        is("ABORTED", x.transactionAt(0, 0), Rangehold.ABORTED);
        is("it gave nothing", job(x, 4), 0);
        is("it leaves its intent", x.intentAt(0, 1, 0), 0);
        x.pass(10);
        is("and asks no more", x.count(7), 2);
    }

    private static void falls() {
        falls("fail;", Rangehold.FAILED);
        falls("a=1/b;", Rangehold.ZERO);
        falls("get x 32;", Rangehold.KEY);
        falls("del -1;", Rangehold.KEY);
        falls("scan k v 5,5{}", Rangehold.KEY);
        falls("scan k v 0,33{}", Rangehold.KEY);
        falls("while 1{}", Rangehold.TIRED);
        falls("a=1;".repeat(99) + "give 1;", Rangehold.TIRED);
        Rangehold x = program(alone(), "put 1,1;" + "a=1;".repeat(98) + "give 9;");
        x.run(0, 0, 0, 0);
        x.settle(30);
        is("100 steps are made", job(x, 4), 9);
        Rangehold y = program(alone(), "get x 1;fail;");
        y.run(0, 0, 0, 0);
        answered(y, OK);
        is("without an anchor key it FELL at once", job(y, 5), Rangehold.FAILED);
        is("no END", y.count(7), 1);
    }

    // what is in its way

    private static void pushes() {
        Rangehold x = program(alone(), "get x 3;give x;");
        int holder = x.begin(0);
        is("an anchor key", answer(x, x.write(holder, 20, 1, 0, 0)), OK);
        is("an intent", answer(x, x.write(holder, 3, 33, 0, 0)), OK);
        x.run(0, 0, 0, 0);
        answered(x, WAITS);
        is("PUSHES", job(x, 7), PUSHES);
        asks(x, PUSH);
        is("for the transaction told", x.askAt(ask(x), 5), holder);
        answered(x, WAITS);
        rests(x);
        is("PUSHES", job(x, 7), PUSHES);
        x.pass(1);
        asks(x, PUSH);
        answered(x, WAITS);
        x.pass(9);
        asks(x, PUSH);
        answered(x, WAITS);
        rests(x);
        x.pass(1);
        asks(x, PUSH);
        answered(x, OK);
        is("PUSHES", job(x, 7), PUSHES);
        asks(x, RESOLVE, 3);
        is("of the transaction told", x.askAt(ask(x), 5), holder);
        answered(x, OK);
        is("WORKS", job(x, 7), WORKS);
        asks(x, READ, 3);
        is("with its own transaction", x.askAt(ask(x), 5), 1);
        answered(x, OK);
        is("TELLS", job(x, 7), TELLS);
        is("one operation was done", x.transactionAt(1, 4), 1);
        is("asked anew: the next number", x.operationAt(1, 0, 3), 2);
        is("the other intent stays", x.intentAt(0, 20, 0), holder);
    }

    /** A committed one in the way becomes a version. */
    private static void pushesCommitted() {
        Rangehold x = program(alone(), "get x 3;put 3,x+1;give x;");
        int holder = commit(x, 0, 3, 30);
        x.run(0, 0, 0, 0);
        answered(x, WAITS);
        answered(x, OK);
        answered(x, OK);
        is("a version", x.versionAt(0, 3, 0, true), 30);
        is("of its moment", x.versionAt(0, 3, 0, false), x.transactionAt(holder, 2));
        answered(x, OK);
        asks(x, WRITE, 3);
        x.settle(20);
        is("gave", job(x, 4), 30);
        is("held", x.heldAt(3), 31);
    }

    private static void pushesOfWrites() {
        Rangehold x = program(alone(), "put 3,7;del 4;");
        int holder = commit(x, 0, 9, 1, 3, 30, 4, 40);
        x.run(0, 0, 0, 0);
        asks(x, WRITE, 3);
        answered(x, WAITS);
        asks(x, PUSH);
        answered(x, OK);
        asks(x, RESOLVE, 3);
        is("of the other one", x.askAt(ask(x), 5), holder);
        answered(x, OK);
        asks(x, WRITE, 3);
        answered(x, OK);
        is("the value is written", x.operationAt(1, 0, 2), 7);
        answered(x, WAITS);
        answered(x, OK);
        asks(x, RESOLVE, 4);
        answered(x, OK);
        asks(x, WRITE, 4);
        answered(x, OK);
        is("what is taken away", x.operationAt(1, 1, 2), ABSENT);
        is("its anchor key", x.transactionAt(1, 3), 3);
    }

    /** A SCAN waits for the least key in its way: that one is resolved, and the same SCAN is asked anew. */
    private static void pushesOfScans() {
        Rangehold x = program(alone(), "scan k v 2,30{s=s*100+k;}give s;");
        int late = x.begin(0);
        int early = commit(x, 0, 25, 1);
        is("an intent", answer(x, x.write(late, 7, 70, 0, 0)), OK);
        is("END", answer(x, x.end(late, true, 0, 0)), OK);
        x.run(0, 0, 0, 0);
        asks(x, SCAN, 2);
        answered(x, WAITS);
        is("the transaction of the least key", x.askAt(ask(x), 5), late);
        answered(x, OK);
        asks(x, RESOLVE, 7);
        answered(x, OK);
        asks(x, SCAN, 2);
        answered(x, WAITS);
        is("the next one", x.askAt(ask(x), 5), early);
        answered(x, OK);
        asks(x, RESOLVE, 25);
        answered(x, OK);
        asks(x, SCAN, 2);
        answered(x, OK);
        is("its own code", job(x, 7), TELLS);
        x.pass(20);
        is("gave", job(x, 4), 725);
    }

    // LATE, GONE, ABORTED: anew

    private static void lateWithoutAnchor() {
        Rangehold x = program(alone(), "get x 1;give x+7;");
        x.run(0, 0, 0, 0);
        is("CLOSE", x.asOf(0, Rangehold.CLOSE, 800 * 15, 0, 0, 0), 1);
        is("SWEEP", x.asOf(0, Rangehold.SWEEP, 800 * 15, 0, 0, 0), 2);
        is("CLOSE", ahead(x, 1), OK);
        is("SWEEP", ahead(x, 2), OK);
        answered(x, GONE);
        is("the first one is ABORTED at once", x.transactionAt(0, 0), Rangehold.ABORTED);
        is("begun twice", job(x, 3), 2);
        is("another transaction", job(x, 6), 1);
        is("behind the k that was told", x.transactionAt(1, 2), 8 * 1501);
        asks(x, READ, 1);
        answered(x, OK);
        x.pass(20);
        is("gave", job(x, 4), 7);
        is("begun twice", job(x, 3), 2);
    }

    private static void lateWithAnchor() {
        Rangehold x = program(alone(), "c=c+1;put 1,c;put 2,c;give c;");
        x.run(0, 0, 0, 0);
        answered(x, OK);
        is("a reading", ahead(x, x.readAsOf(0, 800 * 19, 2, 0, 0)), OK);
        answered(x, LATE);
        asks(x, END);
        is("WORKS", job(x, 7), WORKS);
        is("begun once so far", job(x, 3), 1);
        answered(x, OK);
        is("ABORTED", x.transactionAt(0, 0), Rangehold.ABORTED);
        is("begun twice", job(x, 3), 2);
        is("its transaction", job(x, 6), 1);
        asks(x, WRITE, 1);
        is("the code from its beginning: the variables are 0", x.count(4), 2);
        answered(x, WAITS);
        answered(x, OK);
        answered(x, OK);
        answered(x, OK);
        is("the first value", x.operationAt(1, 0, 2), 1);
    }

    private static void aborted() {
        Rangehold x = program(alone(), "put 1,1;give 5;");
        x.run(0, 0, 0, 0);
        answered(x, OK);
        asks(x, END);
        int end = ask(x);
        hush(x);
        x.addNode(3);
        x.pass(6);
        is("PUSH by a clock of 18", ahead(x, x.push(1, 0, 0, 0)), WAITS);
        x.pass(1);
        is("PUSH by 1000 more", ahead(x, x.push(1, 0, 0, 0)), OK);
        hush(x);
        x.again(end, 0);
        is("END tells ABORTED", ahead(x, end), OK);
        is("ABORTED", x.askAt(end, 4), Rangehold.ABORTED);
        is("it begins anew", job(x, 3), 2);
        is("with another transaction", job(x, 6), 1);
        asks(x, WRITE, 1);
        x.settle(40);
        is("DONE", job(x, 4), 5);
    }

    private static void begunEightTimes() {
        Rangehold x = program(alone(), "get x 1;");
        x.run(0, 0, 0, 0);
        for (int i = 1; i <= 8; i++) {
            is("begun", job(x, 3), i);
            is("RUNS", job(x, 0), RUNS);
            long moment = x.transactionAt(job(x, 6), 2);
            is("CLOSE", ahead(x, x.asOf(0, Rangehold.CLOSE, moment + 1, 0, 0, 0)), OK);
            is("SWEEP", ahead(x, x.asOf(0, Rangehold.SWEEP, moment + 1, 0, 0, 0)), OK);
            answered(x, GONE);
        }
        is("it is begun 8 times at most", job(x, 3), 8);
        is("FELL", job(x, 0), FELL);
        is("with MANY", job(x, 5), MANY);
        is("transactions", x.count(4), 8);
        is("the last one", job(x, 6), 7);
        is("ABORTED", x.transactionAt(7, 0), Rangehold.ABORTED);
    }

    // MANY

    private static void manyTransactions() {
        Rangehold x = program(alone(), "get x 1;");
        while (x.count(4) < 79) {
            x.begin(0);
        }
        x.run(0, 0, 0, 0);
        is("the 80th transaction is one", job(x, 0), RUNS);
        is("the 80th", job(x, 6), 79);
        x.run(0, 0, 0, 0);
        is("there is no 81st", x.jobAt(1, 0), FELL);
        is("MANY", x.jobAt(1, 5), MANY);
        is("no transaction", x.jobAt(1, 6), NONE);
        is("no ask", x.jobAt(1, 8), NONE);
        is("it gave nothing", x.jobAt(1, 4), 0);
        is("WORKS, as it was last", x.jobAt(1, 7), WORKS);
        is("jobs", x.count(15), 2);
        long moment = x.transactionAt(79, 2);
        is("CLOSE", ahead(x, x.asOf(0, Rangehold.CLOSE, moment + 1, 0, 0, 0)), OK);
        is("SWEEP", ahead(x, x.asOf(0, Rangehold.SWEEP, moment + 1, 0, 0, 0)), OK);
        answered(x, GONE);
        is("nor is there one anew", job(x, 0), FELL);
        is("MANY", job(x, 5), MANY);
        is("its latest transaction", job(x, 6), 79);
        is("ABORTED", x.transactionAt(79, 0), Rangehold.ABORTED);
    }

    /** The asks end at each step of a job: behind so many it FELL with MANY. */
    private static void manyAsks() {
        int[] phases = {WORKS, PUSHES, PUSHES, WORKS, WORKS, CLEANS};
        long[] states = {Rangehold.OPEN, Rangehold.OPEN, Rangehold.OPEN, Rangehold.OPEN, Rangehold.OPEN, Rangehold.COMMITTED};
        for (int asks = 0; asks <= 6; asks++) {
            Rangehold x = program(alone(), "put 3,7;give 5;");
            commit(x, 0, 3, 30);
            flood(x, 500 - asks);
            x.run(0, 0, 0, 0);
            for (int i = 0; i < asks; i++) {
                is("RUNS", job(x, 0), RUNS);
                ahead(x, ask(x));
            }
            is("asks", x.count(7), 500);
            if (asks == 6) {
                is("just enough", job(x, 0), RUNS);
                is("TELLS", job(x, 7), TELLS);
                x.pass(20);
                is("DONE", job(x, 4), 5);
                continue;
            }
            is("FELL behind " + asks, job(x, 0), FELL);
            is("MANY", job(x, 5), MANY);
            is("what it did", job(x, 7), phases[asks]);
            is("its transaction stays as it is", x.transactionAt(1, 0), states[asks]);
            is("no ask", ask(x), NONE);
        }
    }

    private static void manyAsksAnew() {
        Rangehold x = program(three(), "get x 1;");
        flood(x, 499);
        x.run(1, 0, 0, 0);
        answered(x, NOT_LEADER);
        rests(x);
        x.pass(1);
        is("asked anew there is none", job(x, 0), FELL);
        is("MANY", job(x, 5), MANY);
        Rangehold y = program(alone(), "put 1,1;fail;");
        flood(y, 499);
        y.run(0, 0, 0, 0);
        answered(y, OK);
        is("END cannot be asked", job(y, 0), FELL);
        is("so it is MANY", job(y, 5), MANY);
        is("OPEN", y.transactionAt(0, 0), Rangehold.OPEN);
        y.pass(12);
        is("its transaction can be told to nobody", y.tell(0), false);
    }

    private static void manyJobs() {
        Rangehold x = program(alone(), "give a;");
        for (int i = 0; i < 24; i++) {
            is("run", x.run(0, 0, i, 0), i);
        }
        fails("a 25th", BAD_STATE, x, () -> x.run(0, 0, 0, 0));
        x.pass(20);
        for (int i = 0; i < 24; i++) {
            is("DONE", x.jobAt(i, 4), i);
        }
        fails("also when all are DONE", BAD_STATE, x, () -> x.run(0, 0, 0, 0));
        is("all", x.count(16), 24);
    }

    // sent again, and what it believes

    private static void sentAgain() {
        for (int nodes = 1; nodes <= 3; nodes++) {
            Rangehold x = nodes(nodes);
            x.found(1);
            x.stop(0, false);
            x.start(0);
            program(x, "get x 1;");
            x.run(nodes - 1, 0, 0, 0);
            int to = nodes - 1;
            int sent = 1;
            is("sent to its own node", node(x, 0), to);
            for (int i = 0; i < 3; i++) {
                x.pass(5);
                int before = messages(x, Rangehold.REQUEST, (to + 1) % nodes);
                is("not sent again ahead of 6 ticks", total(x), sent);
                x.pass(1);
                sent++;
                to = (to + 1) % nodes;
                is("sent again", total(x), sent);
                is("to the next node, 0 behind the last one", messages(x, Rangehold.REQUEST, to), before + 1);
            }
            is("the same ask", x.count(7), 1);
        }
    }

    private static int total(Rangehold x) {
        int many = 0;
        for (int i = 0; i < x.count(9); i++) {
            many += x.messageAt(i, 0) == Rangehold.REQUEST ? 1 : 0;
        }
        return many;
    }

    private static void sentAgainIsBelieved() {
        Rangehold x = program(three(), "get x 1;get y 2;give y;");
        x.run(2, 0, 0, 0);
        x.pass(6);
        is("sent again to node 0", messages(x, Rangehold.REQUEST, 0), 1);
        while (message(x, Rangehold.REQUEST, 2) != NONE) {
            x.lose(message(x, Rangehold.REQUEST, 2));
        }
        answered(x, OK);
        asks(x, READ, 2);
        is("the next ask goes to the node that it believes", node(x, last(x)), 0);
        x.pass(5);
        is("6 ticks are counted from its own sending", total(x), 1);
        x.pass(1);
        is("anew", total(x), 2);
    }

    private static void believesNodes() {
        Rangehold x = led(3);
        x.addNode(0);
        program(x, "get x 1;get y 2;");
        x.run(1, 0, 0, 0);
        is("its own node at first", node(x, last(x)), 1);
        answered(x, NOT_LEADER);
        rests(x);
        is("WORKS", job(x, 7), WORKS);
        x.pass(1);
        asks(x, READ, 1);
        is("a new ask", x.count(7), 2);
        is("behind NOT_LEADER the next node", node(x, last(x)), 2);
        answered(x, NOT_LEADER);
        x.pass(1);
        is("the next node", node(x, last(x)), 3);
        answered(x, NO_COPY);
        rests(x);
        x.pass(1);
        is("behind NO_COPY of the last one 0", node(x, last(x)), 0);
        answered(x, OK);
        asks(x, READ, 2);
        is("the same node for another key of this range", node(x, last(x)), 0);
        is("four operations of which one was done", x.operationAt(0, 0, 3), 4);
    }

    private static void believesNodesByFull() {
        Rangehold x = program(three(), "get x 1;");
        for (int i = 0; i < 39; i++) {
            int it = x.readAsOf(0, 0, 0, 0, 0);
            x.deliver(0);
            is("no answer", x.askAt(it, 3), NONE);
            hush(x);
        }
        x.run(0, 0, 0, 0);
        answered(x, Rangehold.FULL);
        rests(x);
        x.pass(1);
        is("behind FULL the next node", node(x, last(x)), 1);
    }

    /** Ranges 0 (keys 0 to 7), 2 (8 to 15), 3 (16 to 31), all led by node 0; the number 1 has no range. */
    private static Rangehold parted() {
        Rangehold x = alone();
        is("SPLIT at no key of a range that is there", x.split(0, 1, 0, 0), 0);
        x.lose(0);
        is("SPLIT", answer(x, x.split(0, 8, 0, 0)), OK);
        x.pass(9);
        is("SPLIT", answer(x, x.split(0, 16, 2, 0)), OK);
        x.pass(9);
        is("three ranges", x.count(3), 3);
        return x;
    }

    private static void believesRanges() {
        Rangehold x = program(parted(), "get x 20;get y 21;get z 1;get w 20;");
        x.run(0, 0, 0, 0);
        int[] ranges = {0, 2, 3};
        for (int range : ranges) {
            asks(x, READ, 20);
            is("the range", x.askAt(ask(x), 2), range);
            if (range != 3) {
                answered(x, WRONG);
                rests(x);
                x.pass(1);
            }
        }
        answered(x, OK);
        asks(x, READ, 21);
        is("each key has its own: the range 0 at first", x.askAt(ask(x), 2), 0);
        answered(x, WRONG);
        x.pass(1);
        answered(x, WRONG);
        x.pass(1);
        answered(x, OK);
        asks(x, READ, 1);
        is("the range 0", x.askAt(ask(x), 2), 0);
        answered(x, OK);
        asks(x, READ, 20);
        is("what it believes of the key", x.askAt(ask(x), 2), 3);
        answered(x, OK);
        is("TELLS", job(x, 7), TELLS);
    }

    private static void believesTheFirstRange() {
        Rangehold x = program(parted(), "get x 1;");
        int freeze = x.freeze(0, 2, 0, 0);
        is("FREEZE", answer(x, freeze), OK);
        is("REFUSE", answer(x, x.settleJoin(0, Rangehold.REFUSE, freeze, 0)), OK);
        x.run(0, 0, 0, 0);
        answered(x, FROZEN);
        rests(x);
        x.pass(1);
        is("behind FROZEN the next range", x.askAt(ask(x), 2), 2);
        answered(x, WRONG);
        x.pass(1);
        is("behind WRONG the next one", x.askAt(ask(x), 2), 3);
        answered(x, WRONG);
        int thaw = x.settleJoin(0, Rangehold.THAW, freeze, 0);
        is("THAW", ahead(x, thaw), OK);
        x.pass(1);
        is("behind the last one the first", x.askAt(ask(x), 2), 0);
        answered(x, OK);
    }

    /** PUSH and END go by the anchor key, RESOLVE by its key, each with what is believed of it. */
    private static void believesAnchorKeys() {
        Rangehold x = program(parted(), "put 20,1;get x 9;put 1,x;give x;");
        int holder = x.begin(0);
        is("an anchor key in the range 3", answer(x, x.write(holder, 25, 1, 3, 0)), OK);
        is("an intent in the range 2", answer(x, x.write(holder, 9, 90, 2, 0)), OK);
        is("END", answer(x, x.end(holder, true, 3, 0)), OK);
        x.run(0, 0, 0, 0);
        answered(x, WRONG);
        x.pass(1);
        answered(x, WRONG);
        x.pass(1);
        answered(x, OK);
        asks(x, READ, 9);
        answered(x, WRONG);
        x.pass(1);
        is("the key 9 in the range 2", x.askAt(ask(x), 2), 2);
        answered(x, WAITS);
        asks(x, PUSH);
        is("by the anchor key 25: the range 0 at first", x.askAt(ask(x), 2), 0);
        answered(x, WRONG);
        is("PUSHES", job(x, 7), PUSHES);
        rests(x);
        x.pass(1);
        asks(x, PUSH);
        is("the next one", x.askAt(ask(x), 2), 2);
        answered(x, WRONG);
        x.pass(1);
        is("the next one", x.askAt(ask(x), 2), 3);
        answered(x, OK);
        asks(x, RESOLVE, 9);
        is("by its key", x.askAt(ask(x), 2), 2);
        answered(x, OK);
        asks(x, READ, 9);
        answered(x, OK);
        asks(x, WRITE, 1);
        answered(x, OK);
        asks(x, END);
        is("by its own anchor key", x.askAt(ask(x), 2), 3);
        answered(x, OK);
        asks(x, RESOLVE, 1);
        is("ascending", x.askAt(ask(x), 2), 0);
        answered(x, OK);
        asks(x, RESOLVE, 20);
        is("what is believed of it", x.askAt(ask(x), 2), 3);
        answered(x, OK);
        x.pass(20);
        is("gave", job(x, 4), 90);
        is("agrees", x.agrees(), true);
        is("errors", x.errors(), 0);
    }

    /** RESOLVE and END that are answered otherwise are asked anew. */
    private static void askedAnew() {
        Rangehold x = program(three(), "put 1,1;put 2,2;");
        x.run(0, 0, 0, 0);
        int[] commands = {WRITE, WRITE, END, RESOLVE, RESOLVE};
        int[] phases = {WORKS, WORKS, WORKS, CLEANS, CLEANS};
        for (int i = 0; i < commands.length; i++) {
            asks(x, commands[i]);
            int it = ask(x);
            x.lose(last(x));
            x.again(it, 1);
            is("NOT_LEADER", ahead(x, it), NOT_LEADER);
            rests(x);
            is("what it does", job(x, 7), phases[i]);
            x.pass(1);
            asks(x, commands[i]);
            is("a new ask", ask(x) > it, true);
            int next = ask(x);
            hush(x);
            x.again(next, 0);
            answered(x, OK);
        }
        is("TELLS", job(x, 7), TELLS);
        x.pass(20);
        is("DONE", job(x, 0), DONE);
        is("the last values are held", x.heldAt(1) * 10 + x.heldAt(2), 12);
    }

    private static void scansOn() {
        Rangehold x = program(parted(), "put 9,5;scan k v 3,32{s=s+v;}give s;");
        settledIn(x, 0, 7, 70);
        settledIn(x, 2, 8, 800);
        settledIn(x, 3, 31, 3000);
        x.run(0, 0, 0, 0);
        answered(x, WRONG);
        x.pass(1);
        answered(x, OK);
        asks(x, SCAN, 3);
        is("by its first key", x.askAt(ask(x), 2), 0);
        answered(x, OK);
        asks(x, SCAN, 8);
        is("goes on from the key behind the last one covered", x.askAt(ask(x), 2), 0);
        answered(x, WRONG);
        x.pass(1);
        asks(x, SCAN, 8);
        answered(x, OK);
        asks(x, SCAN, 16);
        answered(x, WRONG);
        x.pass(1);
        answered(x, WRONG);
        x.pass(1);
        is("until all is covered", x.askAt(ask(x), 2), 3);
        answered(x, OK);
        asks(x, END);
        x.settle(40);
        is("with the own value", job(x, 4), 70 + 800 + 5 + 3000);
        is("agrees", x.agrees(), true);
    }

    /** The first and the last key are as all others. */
    private static void firstAndLastKeys() {
        Rangehold x = program(alone(), "scan k v 0,32{s=s+v;put k,v+1;}give s;");
        settled(x, 0, 0, 5, 31, 70);
        x.run(0, 0, 0, 0);
        x.settle(40);
        is("gave", job(x, 4), 75);
        is("the first key", x.heldAt(0), 6);
        is("the last one", x.heldAt(31), 71);
        is("all is cleaned", x.rangeAt(0, 5), 0);
        is("versions", x.rangeAt(0, 4), 4);
    }

    private static void settledIn(Rangehold x, int range, int key, long value) {
        settled(x, range, key, value);
    }

    private static void byAscendingJobs() {
        Rangehold x = program(nodes(3), "get x a;");
        x.found(1);
        for (int i = 0; i < 3; i++) {
            x.run(2, 0, i, 0);
        }
        hush(x);
        x.pass(6);
        is("all are sent again", total(x), 3);
        for (int i = 0; i < 3; i++) {
            is("by ascending jobs", x.messageAt(i, 4), i);
        }
        Rangehold y = program(led(2), "get x 1;");
        y.run(1, 0, 0, 0);
        hush(y);
        y.pass(5);
        hush(y);
        y.pass(1);
        is("jobs go on behind the copies", y.messageAt(y.count(9) - 1, 0), Rangehold.REQUEST);
        is("which sent ahead of them", y.messageAt(0, 0), Rangehold.ENTRIES);
    }

    private static void ofJobs() {
        Rangehold x = program(alone(), "get x 1;put 1,x;");
        x.run(0, 0, 0, 0);
        fails("read()", BAD_STATE, x, () -> x.read(0, 1, 0, 0));
        answered(x, OK);
        answered(x, OK);
        fails("write()", BAD_STATE, x, () -> x.write(0, 1, 1, 0, 0));
        fails("scan()", BAD_STATE, x, () -> x.scan(0, 1, 2, 0, 0));
        fails("end()", BAD_STATE, x, () -> x.end(0, false, 0, 0));
        is("push()", ahead(x, x.push(0, 0, 0, 0)), WAITS);
        answered(x, OK);
        is("resolve()", ahead(x, x.resolve(0, 0, 1, 0, 0)), OK);
        fails("end() of one that is COMMITTED", BAD_STATE, x, () -> x.end(0, true, 0, 0));
        x.settle(40);
        is("DONE", job(x, 0), DONE);
        is("told", x.tell(0), true);
    }

    public static void main(String[] args) {
        plain();
        toldByOthers();
        toldAtOnce();
        stops();
        stopsTheFirst();
        falls();
        pushes();
        pushesCommitted();
        pushesOfWrites();
        pushesOfScans();
        lateWithoutAnchor();
        lateWithAnchor();
        aborted();
        begunEightTimes();
        manyTransactions();
        manyAsks();
        manyAsksAnew();
        manyJobs();
        sentAgain();
        sentAgainIsBelieved();
        believesNodes();
        believesNodesByFull();
        believesRanges();
        believesTheFirstRange();
        believesAnchorKeys();
        askedAnew();
        scansOn();
        firstAndLastKeys();
        byAscendingJobs();
        ofJobs();
        finish("JobEdges");
    }
}
