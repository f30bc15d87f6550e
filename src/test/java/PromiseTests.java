/** For each promise of the document: ordinary inputs, the edges that it names, and wrong inputs. */
public final class PromiseTests extends Checks {
    private static String times(String words, int many) {
        StringBuilder all = new StringBuilder();
        for (int i = 0; i < many; i++) {
            all.append(words);
        }
        return all.toString();
    }

    // ---- promises 1 to 5

    private static void promise1() {
        Rangehold x = new Rangehold();
        for (int what = 0; what <= 18; what++) {
            is("count(" + what + ") of a new object", x.count(what), 0);
        }
        is("fineShare of a new object", x.fineShare() == 0.0, true);
        is("meanEntries of a new object", x.meanEntries() == 0.0f, true);
        is("deliver in a new object", x.deliver(0), NONE);
        is("ownerOf in a new object", x.ownerOf(0), NONE);
        is("pass in a new object", x.pass(30), 30);
        is("settle in a new object", x.settle(40), 0);
    }

    private static void promise2() {
        Rangehold x = new Rangehold();
        fails("addNode(-4)", BAD_ARGUMENT, x, () -> x.addNode(-4));
        fails("addNode(4)", BAD_ARGUMENT, x, () -> x.addNode(4));
        for (int i = 0; i < 5; i++) {
            is("addNode", x.addNode(i - 2), i);
            is("a new node is up", x.nodeAt(i, 0), 1);
        }
        fails("addNode of a 6th", BAD_STATE, x, () -> x.addNode(0));
        fails("addNode of a 6th with a bad offset", BAD_ARGUMENT, x, () -> x.addNode(9));
        x.pass(10);
        is("setClock", x.setClock(4, -3), 2);
        is("what a clock shows", x.nodeAt(4, 1), 7);
        is("setClock once more", x.setClock(4, 3), -3);
        fails("setClock of no node", NO_SUCH_NUMBER, x, () -> x.setClock(5, 9));
        fails("setClock of node -1", NO_SUCH_NUMBER, x, () -> x.setClock(-1, 0));
        fails("setClock with a bad offset", BAD_ARGUMENT, x, () -> x.setClock(0, 4));
        is("a bad setClock changes nothing", x.nodeAt(0, 1), 8);
    }

    private static void promise3() {
        Rangehold x = new Rangehold();
        fails("found ahead of nodes", BAD_ARGUMENT, x, () -> x.found(1));
        for (int i = 0; i < 3; i++) {
            x.addNode(0);
        }
        fails("found(0)", BAD_ARGUMENT, x, () -> x.found(0));
        fails("found(8)", BAD_ARGUMENT, x, () -> x.found(8));
        fails("found(-1)", BAD_ARGUMENT, x, () -> x.found(-1));
        is("stop", x.stop(1, false), 0);
        fails("found with a node that is down", BAD_ARGUMENT, x, () -> x.found(3));
        is("found", x.found(5), 2);
        fails("found again", BAD_STATE, x, () -> x.found(1));
        fails("found again with a node that is down", BAD_ARGUMENT, x, () -> x.found(2));
        is("copies of a member", x.nodeAt(2, 3), 1);
        is("copies of a node that is no member", x.nodeAt(1, 3), 0);
        is("the members", x.rangeAt(0, 7), 5);
        fails("stop of no node", NO_SUCH_NUMBER, x, () -> x.stop(3, false));
        fails("stop of a node that is down", BAD_STATE, x, () -> x.stop(1, true));
        int it = x.begin(0);
        int ask = x.read(it, 0, 0, 0);
        x.readAsOf(2, 0, 0, 0, 0);
        is("stop loses the asks of the node", x.stop(0, true), 1);
        is("a LOST ask", x.askAt(ask, 3), -5);
        is("a LOST transaction", x.transactionAt(it, 0), Rangehold.LOST);
        is("the disk has the next number", x.nodeAt(0, 2), 1);
        is("the copies are gone with the disk", x.nodeAt(0, 3), 0);
        is("the node is down", x.nodeAt(0, 0), 0);
        x.stop(2, false);
        is("the copy stays on the disk", x.nodeAt(2, 3), 1);
        is("a copy on a node that is down has no role", x.copyAt(2, 0, 1), NONE);
    }

    private static void promise4() {
        Rangehold x = alone();
        commit(x, 0, 3, 33);
        fails("start of a node that is up", BAD_STATE, x, () -> x.start(0));
        fails("start of no node", NO_SUCH_NUMBER, x, () -> x.start(1));
        is("entries: NOTHING, WRITE, END", x.copyAt(0, 0, 7), 3);
        x.stop(0, false);
        is("the mark on the disk", x.copyAt(0, 0, 4), 0);
        fails("compact on a node that is down", BAD_STATE, x, () -> x.compact(0, 0));
        is("start", x.start(0), 1);
        is("a started copy is a FOLLOWER", x.copyAt(0, 0, 1), Rangehold.FOLLOWER);
        is("its mark is at its base", x.copyAt(0, 0, 4), 0);
        is("it compacts what it has carried out: nothing", x.compact(0, 0), 0);
        x.pass(8);
        is("it was in touch when it started", x.copyAt(0, 0, 1), Rangehold.FOLLOWER);
        x.pass(1);
        is("it stands behind more than 8 ticks", x.copyAt(0, 0, 1), Rangehold.LEADER);
        is("compact", x.compact(0, 0), 4);
        is("the base is laid", x.copyAt(0, 0, 2), 4);
        is("the log is empty", x.copyAt(0, 0, 7), 0);
        is("the last index stays", x.copyAt(0, 0, 3), 4);
        is("what it holds stays", x.heldAt(3), 33);
        fails("compact of no node", NO_SUCH_NUMBER, x, () -> x.compact(1, 0));
        fails("compact of a range that is not there", NO_SUCH_NUMBER, x, () -> x.compact(0, 1));
        x.addNode(0);
        fails("compact without a copy", BAD_STATE, x, () -> x.compact(1, 0));
        x.stop(0, true);
        is("start without a disk", x.start(0), 0);
    }

    private static void promise5() {
        Rangehold x = new Rangehold();
        x.addNode(-3);
        is("begin", x.begin(0), 0);
        is("the first moment at the time 0 of the least clock", x.transactionAt(0, 2), 8);
        x.pass(2);
        is("the last k", x.nodeAt(0, 4), 1);
        x.begin(0);
        is("a moment by the clock", x.transactionAt(1, 2), 8 * 200);
        is("up", x.nodeAt(0, 0), 1);
        is("the clock", x.nodeAt(0, 1), -1);
        is("the disk", x.nodeAt(0, 2), 0);
        is("the copies", x.nodeAt(0, 3), 0);
        fails("nodeAt(1, 9)", NO_SUCH_NUMBER, x, () -> x.nodeAt(1, 9));
        fails("nodeAt(0, 5)", BAD_ARGUMENT, x, () -> x.nodeAt(0, 5));
        fails("nodeAt(0, -1)", BAD_ARGUMENT, x, () -> x.nodeAt(0, -1));
        fails("begin at no node", NO_SUCH_NUMBER, x, () -> x.begin(1));
        for (int i = 2; i < 80; i++) {
            is("begin", x.begin(0), i);
        }
        fails("begin of an 81st", BAD_STATE, x, () -> x.begin(0));
        is("moments of one k behind the other", x.transactionAt(79, 2), 8 * 278);
        Rangehold y = new Rangehold();
        y.addNode(0);
        y.stop(0, false);
        fails("begin at a node that is down", BAD_STATE, y, () -> y.begin(0));
        y.addNode(3);
        y.begin(1);
        is("the moment ends with the node", y.transactionAt(0, 2), 8 * 600 + 1);
    }

    // ---- promises 6 to 9

    private static void promise6() {
        Rangehold x = alone();
        int it = x.begin(0);
        int other = x.begin(0);
        fails("read of no transaction", NO_SUCH_NUMBER, x, () -> x.read(2, 0, 0, 0));
        fails("read in no range", NO_SUCH_NUMBER, x, () -> x.read(it, 99, 1, 0));
        fails("read at no node", NO_SUCH_NUMBER, x, () -> x.read(it, 0, 0, 1));
        fails("read of key 32", BAD_ARGUMENT, x, () -> x.read(it, 32, 0, 0));
        fails("read of key -1", BAD_ARGUMENT, x, () -> x.read(it, -1, 0, 0));
        fails("write of no int", BAD_ARGUMENT, x, () -> x.write(it, 0, 1L << 31, 0, 0));
        fails("write of key 32", BAD_ARGUMENT, x, () -> x.write(it, 32, 0, 0, 0));
        fails("write at no node", NO_SUCH_NUMBER, x, () -> x.write(it, 32, 0, 0, 5));
        is("read", x.read(it, 7, 0, 0), 0);
        fails("read with an ask without an answer", BAD_STATE, x, () -> x.read(it, 7, 0, 0));
        fails("write with an ask without an answer", BAD_STATE, x, () -> x.write(it, 7, 0, 0, 0));
        is("a READ of nothing", answer(x, 0), Rangehold.OK);
        is("its value", x.askAt(0, 4), ABSENT);
        is("write", x.write(other, 7, Integer.MIN_VALUE, 0, 0), 1);
        is("a WRITE behind a reading of a lesser moment", answer(x, 1), Rangehold.OK);
        is("a READ waits not for an intent of a greater moment", answer(x, x.read(it, 7, 0, 0)), Rangehold.OK);
        is("a WRITE ahead of an intent", answer(x, x.write(it, 7, 5, 0, 0)), Rangehold.LATE);
        is("with the moment of the intent", x.askAt(3, 4), x.transactionAt(other, 2));
        is("it is DOOMED", x.transactionAt(it, 0), Rangehold.DOOMED);
        fails("read of a DOOMED one", BAD_STATE, x, () -> x.read(it, 7, 0, 0));
        int third = x.begin(0);
        is("a READ behind an intent", answer(x, x.read(third, 7, 0, 0)), Rangehold.WAITS);
        is("with the transaction", x.askAt(4, 4), other);
        is("a WRITE behind an intent", answer(x, x.write(third, 7, 1, 0, 0)), Rangehold.WAITS);
        is("its own write", answer(x, x.read(other, 7, 0, 0)), Rangehold.OK);
        is("is what it reads", x.askAt(6, 4), Integer.MIN_VALUE);
        is("the latest of its own writes", answer(x, x.write(other, 7, ABSENT, 0, 0)), Rangehold.OK);
        answer(x, x.read(other, 7, 0, 0));
        is("is what it reads then", x.askAt(8, 4), ABSENT);
        is("the intent has two values", x.intentAt(0, 7, 1), 2);
        int late = x.begin(0);
        is("a reading", answer(x, x.read(late, 9, 0, 0)), Rangehold.OK);
        is("a WRITE ahead of a reading", answer(x, x.write(other, 9, 1, 0, 0)), Rangehold.LATE);
        is("with its moment", x.askAt(10, 4), x.transactionAt(late, 2));
        Rangehold y = alone();
        y.begin(0);
        for (int i = 0; i < 500; i++) {
            y.readAsOf(0, 0, 0, 0, 0);
            y.lose(0);
        }
        fails("read as a 501st ask", BAD_STATE, y, () -> y.read(0, 0, 0, 0));
        fails("write as a 501st ask", BAD_STATE, y, () -> y.write(0, 0, 0, 0, 0));
        is("asks", y.count(7), 500);
    }

    private static void promise7() {
        Rangehold x = alone();
        int first = commit(x, 0, 2, 20, 4, 40, 6, ABSENT, 31, 310);
        resolveAll(x, first, 0, 2, 4, 6, 31);
        int it = x.begin(0);
        is("a WRITE", answer(x, x.write(it, 4, -4, 0, 0)), Rangehold.OK);
        fails("scan(0, 0)", BAD_ARGUMENT, x, () -> x.scan(it, 0, 0, 0, 0));
        fails("scan(0, 33)", BAD_ARGUMENT, x, () -> x.scan(it, 0, 33, 0, 0));
        fails("scan(-1, 3)", BAD_ARGUMENT, x, () -> x.scan(it, -1, 3, 0, 0));
        fails("scan(32, 32)", BAD_ARGUMENT, x, () -> x.scan(it, 32, 32, 0, 0));
        fails("scan in no range", NO_SUCH_NUMBER, x, () -> x.scan(it, 0, 0, 1, 0));
        fails("scan of no transaction", NO_SUCH_NUMBER, x, () -> x.scan(9, 0, 9, 0, 0));
        int ask = x.scan(it, 1, 32, 0, 0);
        fails("scanAt ahead of the answer", NO_ELEMENT, x, () -> x.scanAt(ask, 0, 0));
        fails("scan with an ask without an answer", BAD_STATE, x, () -> x.scan(it, 0, 9, 0, 0));
        is("a SCAN", answer(x, ask), Rangehold.OK);
        is("its keys", x.scanAt(ask, -7, 0), 3);
        is("covered up to", x.scanAt(ask, 99, 1), 32);
        is("a key", x.scanAt(ask, 1, 2), 4);
        is("its own value", x.scanAt(ask, 1, 3), -4);
        is("the last key", x.scanAt(ask, 2, 2), 31);
        is("its value", x.scanAt(ask, 2, 3), 310);
        fails("scanAt behind the keys", NO_ELEMENT, x, () -> x.scanAt(ask, 3, 2));
        fails("scanAt ahead of the keys", NO_ELEMENT, x, () -> x.scanAt(ask, -1, 3));
        fails("scanAt(.., 4)", BAD_ARGUMENT, x, () -> x.scanAt(ask, 0, 4));
        fails("scanAt of no ask", NO_SUCH_NUMBER, x, () -> x.scanAt(500, 0, 9));
        fails("scanAt of a WRITE", NO_ELEMENT, x, () -> x.scanAt(0, 0, 0));
        is("all that is covered was read", x.intentAt(0, 17, 3), x.transactionAt(it, 2));
        is("what is ahead was not", x.intentAt(0, 0, 3), 0);
        int other = x.begin(0);
        int waits = x.scan(other, 0, 32, 0, 0);
        is("a SCAN over an intent", answer(x, waits), Rangehold.WAITS);
        is("its transaction", x.askAt(waits, 4), it);
        is("it read nothing", x.intentAt(0, 0, 3), 0);
        is("split", answer(x, x.split(0, 3, 0, 0)), Rangehold.OK);
        int part = x.scan(other, 1, 32, 0, 0);
        is("a SCAN up to the end of the range", answer(x, part), Rangehold.OK);
        is("covers up to there", x.scanAt(part, 0, 1), 3);
        is("finds what is there", x.scanAt(part, 0, 0), 1);
    }

    private static void promise8() {
        Rangehold x = alone();
        int empty = x.begin(0);
        is("end without an anchor key", x.end(empty, true, 99, 99), NONE);
        is("COMMITTED at once", x.transactionAt(empty, 0), Rangehold.COMMITTED);
        int gone = x.begin(0);
        is("end without an anchor key", x.end(gone, false, -1, -1), NONE);
        is("ABORTED at once", x.transactionAt(gone, 0), Rangehold.ABORTED);
        fails("end of an ABORTED one", BAD_STATE, x, () -> x.end(gone, false, 0, 0));
        fails("end of no transaction", NO_SUCH_NUMBER, x, () -> x.end(2, true, 0, 0));
        int it = x.begin(0);
        int write = x.write(it, 1, 11, 0, 0);
        fails("end with an ask without an answer", BAD_STATE, x, () -> x.end(it, true, 0, 0));
        fails("end at no node", NO_SUCH_NUMBER, x, () -> x.end(it, true, 0, 1));
        fails("end in no range", NO_SUCH_NUMBER, x, () -> x.end(it, true, 1, 0));
        answer(x, write);
        int ask = x.end(it, true, 0, 0);
        is("ENDING", x.transactionAt(it, 0), Rangehold.ENDING);
        x.lose(0);
        fails("end again with an ask without an answer", BAD_STATE, x, () -> x.end(it, true, 0, 0));
        x.again(ask, 0);
        is("END", answer(x, ask), Rangehold.OK);
        is("COMMITTED", x.transactionAt(it, 0), Rangehold.COMMITTED);
        is("its value", x.askAt(ask, 4), Rangehold.COMMITTED);
        is("a COMMITTED one is not told at once", x.tell(it), false);
        is("an ABORTED one is", x.tell(gone), true);
        x.pass(6);
        is("not until all clocks are behind its moment", x.tell(it), false);
        x.pass(1);
        is("told", x.tell(it), true);
        x.stop(0, false);
        is("told by an earlier call", x.tell(it), true);
        is("not told on a node that is down", x.tell(empty), false);
        fails("tell of no transaction", NO_SUCH_NUMBER, x, () -> x.tell(-1));
        Rangehold y = three();
        int third = y.begin(0);
        answer(y, y.write(third, 1, 11, 0, 0));
        is("END at no leader", answer(y, y.end(third, false, 0, 1)), Rangehold.NOT_LEADER);
        fails("END otherwise", BAD_STATE, y, () -> y.end(third, true, 0, 0));
        is("END again", answer(y, y.end(third, false, 0, 0)), Rangehold.OK);
        is("ABORTED", y.transactionAt(third, 0), Rangehold.ABORTED);
    }

    private static void promise9() {
        Rangehold x = alone();
        int it = x.begin(0);
        is("no anchor key", x.transactionAt(it, 3), NONE);
        int ask = x.write(it, 6, 66, 0, 0);
        is("the ask without an answer", x.transactionAt(it, 7), ask);
        is("the anchor key", x.transactionAt(it, 3), 6);
        is("nothing was done so far", x.transactionAt(it, 4), 0);
        fails("operationAt of what was not done", NO_SUCH_NUMBER, x, () -> x.operationAt(it, 0, 0));
        answer(x, ask);
        answer(x, x.read(it, 6, 0, 0));
        int other = x.begin(0);
        answer(x, x.write(other, 6, 1, 0, 0));
        answer(x, x.write(other, 5, ABSENT, 0, 0));
        answer(x, x.scan(it, 0, 32, 0, 0));
        is("operations that were done", x.transactionAt(it, 4), 3);
        is("what was not answered OK was not done", x.transactionAt(other, 4), 1);
        is("WRITE", x.operationAt(it, 0, 0), Rangehold.WRITE);
        is("its key", x.operationAt(it, 0, 1), 6);
        is("its value", x.operationAt(it, 0, 2), 66);
        is("its number", x.operationAt(it, 0, 3), 1);
        is("READ", x.operationAt(it, 1, 0), Rangehold.READ);
        is("what it read", x.operationAt(it, 1, 2), 66);
        is("SCAN", x.operationAt(it, 2, 0), Rangehold.SCAN);
        is("how many keys it has", x.operationAt(it, 2, 2), 1);
        is("the number counts what was not done", x.operationAt(other, 0, 3), 2);
        is("a WRITE of ABSENT", x.operationAt(other, 0, 2), ABSENT);
        fails("operationAt(.., 4)", BAD_ARGUMENT, x, () -> x.operationAt(it, 0, 4));
        fails("operationAt(-1)", NO_SUCH_NUMBER, x, () -> x.operationAt(it, -1, 9));
        fails("transactionAt of none", NO_SUCH_NUMBER, x, () -> x.transactionAt(2, 8));
        fails("transactionAt(.., 8)", BAD_ARGUMENT, x, () -> x.transactionAt(it, 8));
        is("the node", x.transactionAt(it, 1), 0);
        is("the moment", x.transactionAt(it, 2), 9600);
        int end = x.end(it, true, 0, 0);
        x.deliver(0);
        is("committed as soon as it is agreed on", x.transactionAt(it, 5), 1);
        is("whatever its node knows", x.transactionAt(it, 0), Rangehold.ENDING);
        x.deliver(0);
        is("no ask without an answer", x.transactionAt(it, 7), NONE);
        is("END", x.askAt(end, 3), Rangehold.OK);
        is("not told", x.transactionAt(it, 6), 0);
        x.pass(10);
        x.tell(it);
        is("told", x.transactionAt(it, 6), 1);
        promise9Lost();
    }

    private static void promise9Lost() {
        Rangehold x = three();
        int writer = x.begin(1);
        int ender = x.begin(1);
        answer(x, x.write(ender, 1, 1, 0, 0));
        int other = x.begin(0);
        int kept = x.read(other, 2, 0, 0);
        int write = x.write(writer, 0, 0, 0, 0);
        int end = x.end(ender, true, 0, 0);
        is("a WRITE without an answer", x.transactionAt(writer, 7), write);
        is("an END without an answer", x.transactionAt(ender, 7), end);
        is("both are LOST", x.stop(1, false), 2);
        is("a LOST WRITE is no ask without an answer", x.transactionAt(writer, 7), NONE);
        is("nor is a LOST END", x.transactionAt(ender, 7), NONE);
        is("that of another node is one still", x.transactionAt(other, 7), kept);
        x.start(1);
        calm(x);
        is("nor is it one when its node is started", x.transactionAt(writer, 7), NONE);
        is("what was agreed on is committed all the same", x.transactionAt(ender, 5), 1);
    }

    // ---- promises 10 to 14

    private static void promise10() {
        Rangehold x = alone();
        int it = commit(x, 0, 8, 80);
        resolveAll(x, it, 0, 8);
        long moment = x.transactionAt(it, 2);
        fails("readAsOf(-1)", BAD_ARGUMENT, x, () -> x.readAsOf(0, -1, 8, 0, 0));
        fails("readAsOf behind the time and 10", BAD_ARGUMENT, x, () -> x.readAsOf(0, 800 * 19 + 1, 8, 0, 0));
        fails("readAsOf of key 32", BAD_ARGUMENT, x, () -> x.readAsOf(0, 0, 32, 0, 0));
        fails("readAsOf at no node", NO_SUCH_NUMBER, x, () -> x.readAsOf(1, 0, 8, 0, 0));
        fails("readAsOf in no range", NO_SUCH_NUMBER, x, () -> x.readAsOf(0, -1, 8, 1, 0));
        int ahead = x.readAsOf(0, moment - 1, 8, 0, 0);
        is("a read as of the moment ahead", answer(x, ahead), Rangehold.OK);
        is("finds nothing", x.askAt(ahead, 4), ABSENT);
        int then = x.readAsOf(0, 800 * 19, 8, 0, 0);
        is("a read as of the last moment", answer(x, then), Rangehold.OK);
        is("finds the value", x.askAt(then, 4), 80);
        is("the reading is one moment later", x.intentAt(0, 8, 3), 800 * 19 + 1);
        is("it has no transaction", x.askAt(then, 5), NONE);
        fails("asOf(READ)", BAD_ARGUMENT, x, () -> x.asOf(0, Rangehold.READ, 0, 0, 0, 0));
        fails("LOOK at key 32", BAD_ARGUMENT, x, () -> x.asOf(0, Rangehold.LOOK, 0, 32, 0, 0));
        fails("CLOSE at no moment", BAD_ARGUMENT, x, () -> x.asOf(0, Rangehold.CLOSE, 800 * 19 + 1, 0, 0, 0));
        fails("asOf at no node", NO_SUCH_NUMBER, x, () -> x.asOf(0, Rangehold.CLOSE, 0, 0, 0, 1));
        is("LOOK above the closed moment", answer(x, x.asOf(0, Rangehold.LOOK, moment, 8, 0, 0)), Rangehold.UNKNOWN);
        is("CLOSE", answer(x, x.asOf(0, Rangehold.CLOSE, moment, 99, 0, 0)), Rangehold.OK);
        is("the closed moment", x.rangeAt(0, 8), moment);
        is("all keys were read one moment later", x.intentAt(0, 0, 3), moment + 1);
        int look = x.asOf(0, Rangehold.LOOK, moment, 8, 0, 0);
        is("LOOK at the closed moment", answer(x, look), Rangehold.OK);
        is("its value", x.askAt(look, 4), 80);
        is("its key", x.askAt(look, 6), 8);
        is("SWEEP above the closed moment", answer(x, x.asOf(0, Rangehold.SWEEP, moment + 1, 0, 0, 0)), Rangehold.WRONG);
        is("SWEEP", answer(x, x.asOf(0, Rangehold.SWEEP, moment, 0, 0, 0)), Rangehold.OK);
        is("the floor", x.rangeAt(0, 9), moment);
        is("the greatest version stays", x.rangeAt(0, 4), 1);
        int below = x.asOf(0, Rangehold.LOOK, moment - 1, 8, 0, 0);
        is("LOOK below the floor", answer(x, below), Rangehold.GONE);
        is("with the floor", x.askAt(below, 4), moment);
        int gone = x.readAsOf(0, moment - 1, 8, 0, 0);
        is("READ below the floor", answer(x, gone), Rangehold.GONE);
        is("with the floor", x.askAt(gone, 4), moment);
        is("it reads nothing", x.intentAt(0, 8, 3), 800 * 19 + 1);
        x.stop(0, false);
        fails("readAsOf at a node that is down", BAD_STATE, x, () -> x.readAsOf(0, 0, 8, 0, 0));
        fails("asOf at a node that is down", BAD_STATE, x, () -> x.asOf(0, Rangehold.LOOK, 0, 8, 0, 0));
    }

    private static void promise10Sweeps() {
        Rangehold x = alone();
        int first = commit(x, 0, 1, 10, 2, 20);
        resolveAll(x, first, 0, 1, 2);
        int second = commit(x, 0, 1, 11, 2, ABSENT);
        resolveAll(x, second, 0, 1, 2);
        is("versions", x.rangeAt(0, 4), 4);
        long moment = x.transactionAt(second, 2);
        is("CLOSE", answer(x, x.asOf(0, Rangehold.CLOSE, moment + 8, 0, 0, 0)), Rangehold.OK);
        is("SWEEP", answer(x, x.asOf(0, Rangehold.SWEEP, moment, 0, 0, 0)), Rangehold.OK);
        is("the older versions went, and what tells that the key is not there", x.rangeAt(0, 4), 1);
        is("the greatest one stays", x.versionAt(0, 1, 0, true), 11);
        is("nothing is lost", x.heldAt(2), ABSENT);
        is("CLOSE at a lesser moment", answer(x, x.asOf(0, Rangehold.CLOSE, 0, 0, 0, 0)), Rangehold.OK);
        is("does not open it", x.rangeAt(0, 8), moment + 8);
        int it = x.begin(0);
        int late = x.write(it, 1, 5, 0, 0);
        is("a WRITE below the closed moment", answer(x, late), Rangehold.LATE);
        is("errors", x.errors(), 0);
        is("agrees", x.agrees(), true);
    }

    private static void promise11() {
        Rangehold x = alone();
        int empty = x.begin(0);
        int it = x.begin(0);
        fails("push without an anchor key", BAD_STATE, x, () -> x.push(0, empty, 0, 0));
        answer(x, x.write(it, 3, 30, 0, 0));
        fails("push of none", NO_SUCH_NUMBER, x, () -> x.push(0, 2, 0, 0));
        fails("push at no node", NO_SUCH_NUMBER, x, () -> x.push(1, it, 0, 0));
        fails("push in no range", NO_SUCH_NUMBER, x, () -> x.push(0, it, 1, 0));
        fails("resolve ahead of any answer", BAD_STATE, x, () -> x.resolve(0, it, 3, 0, 0));
        fails("resolve of key 32", BAD_ARGUMENT, x, () -> x.resolve(0, it, 32, 0, 0));
        fails("resolve of none", NO_SUCH_NUMBER, x, () -> x.resolve(0, 2, 32, 0, 0));
        int early = x.push(0, it, 0, 0);
        is("PUSH of a young one", answer(x, early), Rangehold.WAITS);
        is("with it", x.askAt(early, 4), it);
        is("a PUSH uses no k", x.nodeAt(0, 4), 1201);
        x.pass(9);
        is("PUSH by a k that is 999 more", answer(x, x.push(0, it, 0, 0)), Rangehold.WAITS);
        x.pass(1);
        x.begin(0);
        int late = x.push(0, it, 0, 0);
        is("PUSH by a k that is 1000 more", answer(x, late), Rangehold.OK);
        is("aborts it", x.askAt(late, 4), Rangehold.ABORTED);
        is("a record", x.rangeAt(0, 6), 1);
        is("RESOLVE", answer(x, x.resolve(0, it, 3, 0, 0)), Rangehold.OK);
        is("the intent went", x.intentAt(0, 3, 0), NONE);
        is("without a version", x.rangeAt(0, 4), 0);
        int done = commit(x, 0, 4, 40);
        is("PUSH of a committed one", answer(x, x.push(0, done, 0, 0)), Rangehold.OK);
        is("tells this", x.askAt(x.count(7) - 1, 4), Rangehold.COMMITTED);
        is("RESOLVE", answer(x, x.resolve(0, done, 4, 0, 0)), Rangehold.OK);
        is("makes a version", x.versionAt(0, 4, 0, true), 40);
        is("RESOLVE again", answer(x, x.resolve(0, done, 4, 0, 0)), Rangehold.OK);
        is("changes nothing", x.rangeAt(0, 4), 1);
        x.stop(0, false);
        fails("push at a node that is down", BAD_STATE, x, () -> x.push(0, it, 0, 0));
        fails("resolve at a node that is down", BAD_STATE, x, () -> x.resolve(0, it, 3, 0, 0));
        x.start(0);
        x.pass(10);
        calm(x);
        is("what was ever answered counts", answer(x, x.resolve(0, done, 5, 0, 0)), Rangehold.OK);
    }

    private static void promise11Gone() {
        Rangehold x = alone();
        int it = x.begin(0);
        answer(x, x.write(it, 3, 30, 0, 0));
        answer(x, x.write(it, 3, 31, 0, 0));
        x.pass(11);
        is("PUSH of an old one", answer(x, x.push(0, it, 0, 0)), Rangehold.OK);
        is("RESOLVE", answer(x, x.resolve(0, it, 3, 0, 0)), Rangehold.OK);
        int read = x.read(it, 3, 0, 0);
        is("its own write is gone with the intent", answer(x, read), Rangehold.OK);
        is("so it reads what the versions tell", x.askAt(read, 4), ABSENT);
        is("a WRITE brings an intent", answer(x, x.write(it, 3, 32, 0, 0)), Rangehold.OK);
        is("with its value alone", x.intentAt(0, 3, 1), 1);
        is("END of what was aborted", answer(x, x.end(it, true, 0, 0)), Rangehold.OK);
        is("tells this", x.transactionAt(it, 0), Rangehold.ABORTED);
        is("agrees", x.agrees(), true);
    }

    private static void promise12() {
        Rangehold x = three();
        int it = commit(x, 0, 3, 30, 20, 200);
        fails("split at key 0", BAD_ARGUMENT, x, () -> x.split(0, 0, 0, 0));
        fails("split at key 32", BAD_ARGUMENT, x, () -> x.split(0, 32, 0, 0));
        fails("split at no node", NO_SUCH_NUMBER, x, () -> x.split(3, 0, 0, 0));
        fails("split of no range", NO_SUCH_NUMBER, x, () -> x.split(0, 0, 1, 0));
        int split = x.split(0, 16, 0, 0);
        is("the range is not there until it is agreed on", x.count(3), 1);
        is("SPLIT", answer(x, split), Rangehold.OK);
        is("the new range", x.askAt(split, 4), 1);
        is("its key", x.askAt(split, 6), 16);
        is("ends", x.rangeAt(0, 1), 16);
        is("begins", x.rangeAt(1, 0), 16);
        is("the intent is in the new range", x.intentAt(1, 20, 0), it);
        is("the record stays where the anchor key is", x.rangeAt(0, 6), 1);
        is("and is not in the new range", x.rangeAt(1, 6), 0);
        is("a copy on the leader's node", x.copyAt(0, 1, 1), Rangehold.FOLLOWER);
        is("its members", x.copyAt(0, 1, 6), 7);
        int wrong = x.split(0, 20, 0, 0);
        is("SPLIT outside", answer(x, wrong), Rangehold.WRONG);
        is("without a value", x.askAt(wrong, 4), 0);
        for (int i = 3; i < 8; i++) {
            x.split(0, i, 0, 1);
        }
        fails("split with 8 numbers", BAD_STATE, x, () -> x.split(0, 5, 0, 0));
        x.settle(30);
        fails("freeze into no range", NO_SUCH_NUMBER, x, () -> x.freeze(0, 2, 1, 0));
        fails("freeze into itself", BAD_STATE, x, () -> x.freeze(0, 1, 1, 0));
        fails("freeze at no node", NO_SUCH_NUMBER, x, () -> x.freeze(0, 0, 1, 3));
        int freeze = x.freeze(0, 0, 1, leader(x, 1));
        is("FREEZE", answer(x, freeze), Rangehold.OK);
        is("frozen", x.rangeAt(1, 2), 1);
        is("a frozen range owns nothing", x.ownerOf(16), NONE);
        int next = x.freeze(0, 0, 1, leader(x, 1));
        is("FREEZE by another epoch", answer(x, next), Rangehold.FROZEN);
        is("READ in a frozen range", answer(x, x.readAsOf(0, 0, 16, 1, leader(x, 1))), Rangehold.FROZEN);
        is("errors", x.errors(), 0);
        x.stop(0, false);
        fails("split at a node that is down", BAD_STATE, x, () -> x.split(0, 5, 0, 0));
        fails("freeze at a node that is down", BAD_STATE, x, () -> x.freeze(0, 0, 1, 0));
    }

    private static void promise13() {
        Rangehold x = alone();
        answer(x, x.split(0, 16, 0, 0));
        x.pass(9);
        int it = commit(x, 1, 20, 200);
        int freeze = x.freeze(0, 0, 1, 0);
        fails("JOIN ahead of the answer", BAD_STATE, x, () -> x.settleJoin(0, Rangehold.JOIN, freeze, 0));
        is("FREEZE", answer(x, freeze), Rangehold.OK);
        fails("settleJoin of a SPLIT", BAD_ARGUMENT, x, () -> x.settleJoin(0, Rangehold.JOIN, 0, 0));
        fails("settleJoin(ADD)", BAD_ARGUMENT, x, () -> x.settleJoin(0, Rangehold.ADD, freeze, 0));
        fails("settleJoin of no ask", NO_SUCH_NUMBER, x, () -> x.settleJoin(0, Rangehold.JOIN, 99, 0));
        fails("settleJoin at no node", NO_SUCH_NUMBER, x, () -> x.settleJoin(1, Rangehold.JOIN, freeze, 0));
        fails("settleJoin to no node", NO_SUCH_NUMBER, x, () -> x.settleJoin(0, Rangehold.ADD, freeze, 1));
        fails("THAW ahead of a REFUSE", BAD_STATE, x, () -> x.settleJoin(0, Rangehold.THAW, freeze, 0));
        int refuse = x.settleJoin(0, Rangehold.REFUSE, freeze, 0);
        is("REFUSE is asked for the other range", x.askAt(refuse, 2), 0);
        is("REFUSE", answer(x, refuse), Rangehold.OK);
        is("JOIN of what was refused", answer(x, x.settleJoin(0, Rangehold.JOIN, freeze, 0)), Rangehold.REFUSED);
        int thaw = x.settleJoin(0, Rangehold.THAW, freeze, 0);
        is("THAW is asked for the frozen range", x.askAt(thaw, 2), 1);
        is("THAW", answer(x, thaw), Rangehold.OK);
        is("it owns its keys again", x.ownerOf(20), 1);
        is("THAW again", answer(x, x.settleJoin(0, Rangehold.THAW, freeze, 0)), Rangehold.WRONG);
        int second = x.freeze(0, 0, 1, 0);
        is("FREEZE anew", answer(x, second), Rangehold.OK);
        is("JOIN", answer(x, x.settleJoin(0, Rangehold.JOIN, second, 0)), Rangehold.OK);
        is("JOIN again", answer(x, x.settleJoin(0, Rangehold.JOIN, second, 0)), Rangehold.OK);
        is("REFUSE of what was joined", answer(x, x.settleJoin(0, Rangehold.REFUSE, second, 0)), Rangehold.JOINED);
        is("the end of the range", x.rangeAt(0, 1), 32);
        is("what was joined has all", x.heldAt(20), 200);
        is("its record, too", x.rangeAt(0, 6), 1);
        is("the intent can be resolved there", answer(x, x.resolve(0, it, 20, 0, 0)), Rangehold.OK);
        is("a version", x.versionAt(0, 20, 0, true), 200);
        int back = x.freeze(0, 1, 0, 0);
        is("FREEZE", answer(x, back), Rangehold.OK);
        is("JOIN into a frozen range", answer(x, x.settleJoin(0, Rangehold.JOIN, back, 0)), Rangehold.FROZEN);
        is("errors", x.errors(), 0);
    }

    private static void promise12Again() {
        Rangehold x = alone();
        int split = x.split(0, 16, 0, 0);
        x.twice(0);
        is("SPLIT", answer(x, split), Rangehold.OK);
        is("once", x.count(3), 2);
        is("two entries", x.rangeAt(0, 3), 3);
        is("the range is as the first one left it", x.rangeAt(0, 1), 16);
        x.pass(9);
        int first = x.split(0, 16, 1, 0);
        is("SPLIT at the first key", answer(x, first), Rangehold.WRONG);
        is("splits nothing off", x.count(3), 2);
        int freeze = x.freeze(0, 1, 0, 0);
        is("FREEZE", answer(x, freeze), Rangehold.OK);
        int join = x.settleJoin(0, Rangehold.JOIN, freeze, 0);
        is("JOIN is asked for the other range", x.askAt(join, 2), 1);
        is("JOIN of what does not begin at the end", answer(x, join), Rangehold.WRONG);
        is("SPLIT of a frozen range", answer(x, x.split(0, 8, 0, 0)), Rangehold.FROZEN);
        is("splits nothing off", x.count(3), 2);
        is("CLOSE of a frozen range", answer(x, x.asOf(0, Rangehold.CLOSE, 0, 0, 0, 0)), Rangehold.FROZEN);
        is("LOOK at a frozen range", answer(x, x.asOf(0, Rangehold.LOOK, 0, 3, 0, 0)), Rangehold.OK);
        is("LOOK at a key that went", answer(x, x.asOf(0, Rangehold.LOOK, 0, 16, 0, 0)), Rangehold.WRONG);
        is("errors", x.errors(), 0);
    }

    private static void promise13Moments() {
        Rangehold x = alone();
        answer(x, x.split(0, 16, 0, 0));
        x.pass(9);
        answer(x, x.asOf(0, Rangehold.CLOSE, 100, 0, 0, 0));
        answer(x, x.asOf(0, Rangehold.SWEEP, 50, 0, 0, 0));
        answer(x, x.asOf(0, Rangehold.CLOSE, 70, 0, 1, 0));
        answer(x, x.asOf(0, Rangehold.SWEEP, 60, 0, 1, 0));
        int freeze = x.freeze(0, 0, 1, 0);
        answer(x, freeze);
        is("JOIN", answer(x, x.settleJoin(0, Rangehold.JOIN, freeze, 0)), Rangehold.OK);
        is("the closed moment is the lesser one", x.rangeAt(0, 8), 70);
        is("the floor is the greater one", x.rangeAt(0, 9), 60);
        is("the readings of the joined keys are as they were", x.intentAt(0, 16, 3), 71);
        is("those of the others, too", x.intentAt(0, 15, 3), 101);
        answer(x, x.split(0, 8, 0, 0));
        is("a new range has the closed moment", x.rangeAt(2, 8), 70);
        is("and the floor", x.rangeAt(2, 9), 60);
    }

    private static void promise13Changes() {
        Rangehold x = three();
        x.addNode(0);
        fails("change at no node", NO_SUCH_NUMBER, x, () -> x.change(4, true, 3, 0, 0));
        fails("change of no node", NO_SUCH_NUMBER, x, () -> x.change(0, true, 4, 0, 0));
        fails("change of no range", NO_SUCH_NUMBER, x, () -> x.change(0, true, 3, 1, 0));
        int add = x.change(0, true, 3, 0, 0);
        x.deliver(0);
        is("ADD counts as soon as it is in the log", x.copyAt(0, 0, 6), 15);
        is("but not as agreed on", x.rangeAt(0, 7), 7);
        int next = x.change(0, false, 2, 0, 0);
        is("ADD", answer(x, add), Rangehold.OK);
        is("what comes ahead of its agreement", x.askAt(next, 3), Rangehold.LATER);
        is("agreed on", x.rangeAt(0, 7), 15);
        is("a copy came", x.nodeAt(3, 3), 1);
        is("DROP of the leader", answer(x, x.change(1, false, 0, 0, 0)), Rangehold.OK);
        is("it is a FOLLOWER", x.copyAt(0, 0, 1), Rangehold.FOLLOWER);
        is("it is no member", x.rangeAt(0, 7), 14);
        x.pass(30);
        calm(x);
        is("it does not stand", x.copyAt(0, 0, 1), Rangehold.FOLLOWER);
        int leader = leader(x, 0);
        is("another one leads", leader != 0, true);
        int victim = leader == 3 ? 2 : 3;
        x.stop(victim, true);
        x.start(victim);
        is("ADD of another disk", answer(x, x.change(0, true, victim, 0, leader)), Rangehold.LATER);
        is("DROP", answer(x, x.change(0, false, victim, 0, leader)), Rangehold.OK);
        is("ADD of the new disk", answer(x, x.change(0, true, victim, 0, leader)), Rangehold.OK);
        is("a copy on the new disk", x.nodeAt(victim, 3), 1);
        is("errors", x.errors(), 0);
        x.stop(0, false);
        fails("change at a node that is down", BAD_STATE, x, () -> x.change(0, true, 0, 0, 1));
    }

    private static void promise13Next() {
        Rangehold x = three();
        x.addNode(0);
        for (int i = 0; i < 5; i++) {
            answer(x, x.readAsOf(0, 0, 0, 0, 0));
        }
        x.change(0, true, 3, 0, 0);
        x.deliver(0);
        is("a new member is sent to", x.messageAt(2, 2), 3);
        is("from the ADD on", x.messageAt(2, 6), 1);
        x.deliver(2);
        is("it has no copy: GOT no", x.messageAt(2, 5), 0);
        is("with the term that was told", x.messageAt(2, 4), 1);
        x.deliver(2);
        is("then a BASE", x.messageAt(2, 0), Rangehold.BASE);
        x.deliver(2);
        is("makes a copy", x.nodeAt(3, 3), 1);
        is("at this base", x.copyAt(3, 0, 3), 0);
        is("GOT yes", x.messageAt(2, 5), 1);
        x.deliver(2);
        is("then the entries behind it", x.messageAt(2, 6), 4);
        calm(x);
        is("all of them", x.copyAt(3, 0, 3), 7);
        is("it votes, too", x.copyAt(3, 0, 6), 15);
    }

    /** A member that gets a BASE makes the copies of the ranges that were split off, too. */
    private static void promise13Base() {
        Rangehold x = three();
        x.stop(2, false);
        answer(x, x.split(0, 16, 0, 0));
        x.compact(0, 0);
        x.start(2);
        is("no copy of the new range", x.nodeAt(2, 3), 1);
        x.pass(3);
        x.lose(0);
        is("a BASE", x.messageAt(0, 0), Rangehold.BASE);
        x.twice(0);
        x.lose(0);
        x.deliver(0);
        is("the base is laid", x.copyAt(2, 0, 2), 2);
        is("a copy of the new range", x.nodeAt(2, 3), 2);
        is("with its members", x.copyAt(2, 1, 6), 7);
        is("it holds its keys", x.copyAt(2, 1, 2), 0);
        x.settle(30);
        is("errors", x.errors(), 0);
        is("a look at its own state", answer(x, x.asOf(0, Rangehold.LOOK, 0, 16, 1, 2)), Rangehold.OK);
    }

    private static void promise28Base() {
        Rangehold x = three();
        for (int i = 0; i < 4; i++) {
            answer(x, x.readAsOf(0, 0, 0, 0, 0));
        }
        x.pass(3);
        calm(x);
        is("node 1 lays its base", x.compact(1, 0), 5);
        answer(x, x.readAsOf(0, 0, 0, 0, 0));
        x.stop(2, false);
        answer(x, x.readAsOf(0, 0, 0, 0, 0));
        answer(x, x.readAsOf(0, 0, 0, 0, 0));
        x.stop(0, false);
        x.start(2);
        x.pass(12);
        for (int i = 0; i < 100 && x.copyAt(1, 0, 1) != Rangehold.LEADER; i++) {
            x.deliver(0);
        }
        x.deliver(x.count(9) - 1);
        is("GOT no", x.messageAt(x.count(9) - 1, 5), 0);
        while (x.count(9) > 1) {
            x.lose(0);
        }
        x.twice(0);
        x.twice(0);
        x.deliver(0);
        is("ENTRIES behind what it has", x.messageAt(2, 6), 3);
        x.deliver(0);
        is("one more ahead of it", x.messageAt(2, 6), 4);
        x.deliver(0);
        is("and at last a BASE", x.messageAt(2, 0), Rangehold.BASE);
        x.deliver(2);
        is("the base is laid", x.copyAt(2, 0, 2), 5);
        is("the entry behind it stays", x.copyAt(2, 0, 3), 6);
        is("the mark is at the base", x.copyAt(2, 0, 4), 5);
        calm(x);
        is("it gets the rest", x.copyAt(2, 0, 3), 9);
        is("errors", x.errors(), 0);
    }

    private static void promise14() {
        Rangehold x = three();
        x.begin(0);
        int ask = x.write(0, 5, 50, 0, 2);
        is("the command", x.askAt(ask, 0), Rangehold.WRITE);
        is("the node", x.askAt(ask, 1), 0);
        is("the range", x.askAt(ask, 2), 0);
        is("no answer", x.askAt(ask, 3), NONE);
        is("no value", x.askAt(ask, 4), 0);
        is("the transaction", x.askAt(ask, 5), 0);
        is("the key", x.askAt(ask, 6), 5);
        fails("askAt of none", NO_SUCH_NUMBER, x, () -> x.askAt(1, 9));
        fails("askAt(.., 7)", BAD_ARGUMENT, x, () -> x.askAt(ask, 7));
        fails("again of none", NO_SUCH_NUMBER, x, () -> x.again(1, 0));
        fails("again to no node", NO_SUCH_NUMBER, x, () -> x.again(ask, 3));
        x.again(ask, 0);
        is("two REQUESTs", x.count(9), 2);
        x.deliver(1);
        is("the other one is answered first", answer(x, ask), Rangehold.NOT_LEADER);
        fails("again of what has an answer", BAD_STATE, x, () -> x.again(ask, 0));
        is("the WRITE was carried out all the same", x.intentAt(0, 5, 0), 0);
        int lost = x.readAsOf(2, 0, 0, 0, 0);
        x.stop(2, false);
        fails("again of what is LOST", BAD_STATE, x, () -> x.again(lost, 0));
        calm(x);
        is("a LOST ask gets no answer", x.askAt(lost, 3), -5);
        x.start(2);
        calm(x);
        is("nor when the node is started", x.askAt(lost, 3), -5);
        int freeze = x.asOf(0, Rangehold.CLOSE, 0, 7, 0, 1);
        is("CLOSE has no key", x.askAt(freeze, 6), NONE);
        is("and no transaction", x.askAt(freeze, 5), NONE);
        x.addNode(0);
        is("a node without a copy", answer(x, x.readAsOf(0, 0, 0, 0, 3)), Rangehold.NO_COPY);
    }

    private static void promise14Full() {
        Rangehold x = three();
        x.stop(1, false);
        x.stop(2, false);
        for (int i = 0; i < 39; i++) {
            x.readAsOf(0, 0, 0, 0, 0);
            calm(x);
        }
        is("entries", x.copyAt(0, 0, 7), 40);
        is("a REQUEST to a full log", answer(x, x.readAsOf(0, 0, 0, 0, 0)), Rangehold.FULL);
        is("asks without an answer", x.count(8), 39);
        x.start(1);
        x.pass(3);
        calm(x);
        is("all are carried out when there is a majority", x.count(8), 0);
        is("a reading has a value", x.askAt(0, 4), ABSENT);
        x.pass(1);
        is("the leader's log is compacted", x.copyAt(0, 0, 7), 0);
        x.start(2);
        x.pass(3);
        calm(x);
        is("a BASE is laid", x.copyAt(2, 0, 2), 40);
    }

    // ---- promises 15 to 19

    /** Node 0 becomes the LEADER again and again, but its entries are lost. */
    private static void promise14Long() {
        Rangehold x = three();
        x.stop(2, false);
        for (int i = 0; i < 39; i++) {
            x.readAsOf(0, 0, 0, 0, 0);
            x.deliver(0);
            x.lose(0);
            x.lose(0);
        }
        for (int i = 0; i < 60; i++) {
            x.stop(0, false);
            x.start(0);
            x.pass(9);
            while (x.count(9) > 0) {
                int kind = x.messageAt(0, 0);
                if (kind == Rangehold.CALL || kind == Rangehold.VOTE) {
                    x.deliver(0);
                } else {
                    x.lose(0);
                }
            }
            is("LEADER by the next term", x.copyAt(0, 0, 1), Rangehold.LEADER);
            is("with an entry NOTHING more", x.copyAt(0, 0, 7), 41 + i);
        }
        is("nothing was agreed on", x.rangeAt(0, 3), 1);
        x.pass(3);
        calm(x);
        is("all is agreed on", x.rangeAt(0, 3), 100);
        is("as it was carried out", x.errors(), 0);
        is("readings of a LEADER that stopped are LOST", x.count(8), 0);
        x.pass(1);
        is("the log is compacted", x.copyAt(0, 0, 7), 0);
        is("errors", x.errors(), 0);
    }

    private static void promise15() {
        Rangehold x = new Rangehold();
        for (int i = 0; i < 3; i++) {
            x.addNode(0);
        }
        x.found(7);
        is("the first term", x.copyAt(0, 0, 0), 0);
        is("voted for nobody", x.copyAt(0, 0, 5), NONE);
        x.pass(9);
        is("a CANDIDATE", x.copyAt(0, 0, 1), Rangehold.CANDIDATE);
        is("voted for itself", x.copyAt(0, 0, 5), 0);
        is("the next term", x.copyAt(0, 0, 0), 1);
        is("two CALLs", x.count(9), 2);
        x.deliver(0);
        is("voted for the candidate", x.copyAt(1, 0, 5), 0);
        x.deliver(1);
        is("one vote of two others is a majority", x.copyAt(0, 0, 1), Rangehold.LEADER);
        is("an entry NOTHING", x.entryAt(0, 0, 1, 1), Rangehold.NOTHING);
        is("of its term", x.entryAt(0, 0, 1, 0), 1);
        is("without an ask", x.entryAt(0, 0, 1, 2), NONE);
        is("not agreed on so far", x.copyAt(0, 0, 4), 0);
        calm(x);
        is("agreed on", x.copyAt(0, 0, 4), 1);
        is("the others learn it later", x.copyAt(1, 0, 4), 0);
        is("they have it", x.copyAt(1, 0, 3), 1);
        x.pass(3);
        calm(x);
        is("by the next ENTRIES", x.copyAt(1, 0, 4), 1);
        int ask = x.readAsOf(1, 5, 5, 0, 0);
        calm(x);
        is("a command", x.entryAt(2, 0, 2, 1), Rangehold.READ);
        is("its ask", x.entryAt(2, 0, 2, 2), ask);
        is("the base", x.copyAt(2, 0, 2), 0);
        is("the members", x.copyAt(2, 0, 6), 7);
        fails("entryAt the base", NO_SUCH_NUMBER, x, () -> x.entryAt(0, 0, 0, 9));
        fails("entryAt behind the last", NO_SUCH_NUMBER, x, () -> x.entryAt(0, 0, 3, 0));
        fails("entryAt(.., 3)", BAD_ARGUMENT, x, () -> x.entryAt(0, 0, 1, 3));
        fails("entryAt of no range", NO_SUCH_NUMBER, x, () -> x.entryAt(0, 1, 1, 0));
        fails("copyAt of no node", NO_SUCH_NUMBER, x, () -> x.copyAt(3, 0, 9));
        fails("copyAt of no range", NO_SUCH_NUMBER, x, () -> x.copyAt(0, 8, 0));
        fails("copyAt(.., 8)", BAD_ARGUMENT, x, () -> x.copyAt(0, 0, 8));
        x.addNode(0);
        fails("copyAt without a copy", NO_SUCH_NUMBER, x, () -> x.copyAt(3, 0, 0));
    }

    private static void promise16() {
        Rangehold x = alone();
        int first = commit(x, 0, 5, 50);
        resolveAll(x, first, 0, 5);
        int second = commit(x, 0, 5, 51, 6, 60);
        resolveAll(x, second, 0, 5);
        is("the first key", x.rangeAt(0, 0), 0);
        is("the key behind", x.rangeAt(0, 1), 32);
        is("not frozen", x.rangeAt(0, 2), 0);
        is("entries that were agreed on", x.rangeAt(0, 3), 8);
        is("versions", x.rangeAt(0, 4), 2);
        is("intents", x.rangeAt(0, 5), 1);
        is("records", x.rangeAt(0, 6), 2);
        is("members", x.rangeAt(0, 7), 1);
        is("closed", x.rangeAt(0, 8), 0);
        is("floor", x.rangeAt(0, 9), 0);
        is("the older version", x.versionAt(0, 5, 0, true), 50);
        is("its moment", x.versionAt(0, 5, 0, false), x.transactionAt(first, 2));
        is("the newer version", x.versionAt(0, 5, 1, true), 51);
        is("its moment", x.versionAt(0, 5, 1, false), x.transactionAt(second, 2));
        fails("versionAt behind the last", NO_SUCH_NUMBER, x, () -> x.versionAt(0, 5, 2, true));
        fails("versionAt(-1)", NO_SUCH_NUMBER, x, () -> x.versionAt(0, 5, -1, true));
        fails("versionAt of key 32", NO_SUCH_NUMBER, x, () -> x.versionAt(0, 32, 0, true));
        fails("versionAt of no range", NO_SUCH_NUMBER, x, () -> x.versionAt(1, 5, 0, true));
        fails("rangeAt of none", NO_SUCH_NUMBER, x, () -> x.rangeAt(1, 99));
        fails("rangeAt of -1", NO_SUCH_NUMBER, x, () -> x.rangeAt(-1, 0));
        fails("rangeAt(.., 10)", BAD_ARGUMENT, x, () -> x.rangeAt(0, 10));
        answer(x, x.split(0, 6, 0, 0));
        fails("versionAt of a key that went", NO_SUCH_NUMBER, x, () -> x.versionAt(0, 6, 0, true));
        is("intents left", x.rangeAt(0, 5), 0);
    }

    private static void promise17() {
        Rangehold x = alone();
        int it = x.begin(0);
        answer(x, x.write(it, 9, 1, 0, 0));
        answer(x, x.write(it, 4, 1, 0, 0));
        is("the transaction", x.intentAt(0, 4, 0), it);
        is("its values", x.intentAt(0, 4, 1), 1);
        is("its anchor key", x.intentAt(0, 4, 2), 9);
        is("never read", x.intentAt(0, 4, 3), 0);
        for (int what = 0; what < 3; what++) {
            is("without an intent", x.intentAt(0, 5, what), NONE);
        }
        fails("intentAt(.., 4)", BAD_ARGUMENT, x, () -> x.intentAt(0, 5, 4));
        fails("intentAt of key 32", NO_SUCH_NUMBER, x, () -> x.intentAt(0, 32, 9));
        fails("intentAt of no range", NO_SUCH_NUMBER, x, () -> x.intentAt(1, 5, 0));
        is("nothing is closed", x.resolved(0, 0), 0);
        answer(x, x.asOf(0, Rangehold.CLOSE, 9000, 0, 0, 0));
        is("closed below the intents", x.resolved(0, 0), 9000);
        answer(x, x.asOf(0, Rangehold.CLOSE, 10000, 0, 0, 0));
        is("closed above the intents", x.resolved(0, 0), 9599);
        fails("resolved of no node", NO_SUCH_NUMBER, x, () -> x.resolved(1, 0));
        fails("resolved of no copy", NO_SUCH_NUMBER, x, () -> x.resolved(0, 1));
        x.stop(0, false);
        fails("resolved on a node that is down", BAD_STATE, x, () -> x.resolved(0, 0));
    }

    private static void promise18() {
        Rangehold x = alone();
        int first = commit(x, 0, 7, 70, 3, 30);
        resolveAll(x, first, 0, 7, 3);
        int second = commit(x, 0, 3, ABSENT);
        resolveAll(x, second, 0, 3);
        long early = x.transactionAt(first, 2);
        long late = x.transactionAt(second, 2);
        is("nothing is told ahead of a closed moment", x.feedAt(0, 0, 0, 99, 0), 0);
        answer(x, x.asOf(0, Rangehold.CLOSE, late, 0, 0, 0));
        is("versions in the feed", x.feedAt(0, 0, 0, -1, 0), 3);
        is("those of one moment by keys", x.feedAt(0, 0, 0, 0, 2), 3);
        is("its value", x.feedAt(0, 0, 0, 0, 3), 30);
        is("the next key", x.feedAt(0, 0, 0, 1, 2), 7);
        is("its moment", x.feedAt(0, 0, 0, 1, 1), early);
        is("the later moment", x.feedAt(0, 0, 0, 2, 1), late);
        is("what tells that a key is not there", x.feedAt(0, 0, 0, 2, 3), ABSENT);
        is("since the first moment", x.feedAt(0, 0, early, 0, 0), 1);
        is("since the last moment", x.feedAt(0, 0, late, 0, 0), 0);
        fails("feedAt behind the last", NO_ELEMENT, x, () -> x.feedAt(0, 0, 0, 3, 1));
        fails("feedAt(-1)", NO_ELEMENT, x, () -> x.feedAt(0, 0, 0, -1, 1));
        fails("feedAt(.., 4)", BAD_ARGUMENT, x, () -> x.feedAt(0, 0, -1, 0, 4));
        fails("feedAt since -1", BAD_STATE, x, () -> x.feedAt(0, 0, -1, 0, 0));
        fails("feedAt of no node", NO_SUCH_NUMBER, x, () -> x.feedAt(1, 0, 0, 0, 9));
        fails("feedAt of no copy", NO_SUCH_NUMBER, x, () -> x.feedAt(0, 1, 0, 0, 9));
        answer(x, x.asOf(0, Rangehold.SWEEP, early, 0, 0, 0));
        fails("feedAt since less than the floor", BAD_STATE, x, () -> x.feedAt(0, 0, early - 1, 0, 0));
        is("feedAt since the floor", x.feedAt(0, 0, early, 0, 0), 1);
        is("errors", x.errors(), 0);
        is("ownerOf", x.ownerOf(31), 0);
        fails("ownerOf(32)", BAD_ARGUMENT, x, () -> x.ownerOf(32));
        fails("ownerOf(-1)", BAD_ARGUMENT, x, () -> x.ownerOf(-1));
        answer(x, x.split(0, 31, 0, 0));
        is("the new owner", x.ownerOf(31), 1);
        is("the old owner", x.ownerOf(30), 0);
        x.stop(0, false);
        fails("feedAt on a node that is down", BAD_STATE, x, () -> x.feedAt(0, 0, late, 0, 0));
        is("what is agreed stays", x.ownerOf(31), 1);
    }

    private static void promise19() {
        Rangehold x = alone();
        int it = x.begin(0);
        answer(x, x.write(it, 2, 5, 0, 0));
        answer(x, x.write(it, 2, 6, 0, 0));
        is("what is not committed", x.valueAt(2, Long.MAX_VALUE), ABSENT);
        is("is not held", x.heldAt(2), ABSENT);
        answer(x, x.end(it, true, 0, 0));
        is("the latest WRITE", x.valueAt(2, Long.MAX_VALUE), 6);
        is("as of its moment", x.valueAt(2, x.transactionAt(it, 2)), 6);
        is("as of the moment ahead", x.valueAt(2, x.transactionAt(it, 2) - 1), ABSENT);
        is("as of no moment", x.valueAt(2, Long.MIN_VALUE), ABSENT);
        is("held by the intent", x.heldAt(2), 6);
        resolveAll(x, it, 0, 2);
        is("held by the version", x.heldAt(2), 6);
        int second = commit(x, 0, 2, 7);
        is("held by the intent with the greater moment", x.heldAt(2), 7);
        is("the older value", x.valueAt(2, x.transactionAt(second, 2) - 1), 6);
        fails("valueAt(32)", BAD_ARGUMENT, x, () -> x.valueAt(32, 0));
        fails("heldAt(-1)", BAD_ARGUMENT, x, () -> x.heldAt(-1));
        answer(x, x.split(0, 1, 0, 0));
        x.pass(9);
        calm(x);
        answer(x, x.freeze(0, 0, 1, 0));
        is("held by nobody", x.heldAt(2), ABSENT);
        is("what was committed stays", x.valueAt(2, Long.MAX_VALUE), 7);
    }

    // ---- promises 20 to 24

    private static void promise20() {
        Rangehold x = new Rangehold();
        is("type", x.type(0x6100000000000062L, 0, 0x63L, 0, 0, -1L), 11);
        is("bytes above 127", x.errorPlace(), 0);
        is("clearText", x.clearText(), 11);
        is("type of nothing", x.type(0, 0, 0, 0, 0, 0), 0);
        for (int i = 0; i < 6; i++) {
            x.clearText();
            int length = x.piece(i);
            is("errorKind of a piece", x.errorKind(), 0);
            is("a piece ends with a byte 10", length, PIECES[i].length() + 1);
            Rangehold y = new Rangehold();
            put(y, PIECES[i]);
            x.load();
            y.load();
            is("code of piece " + i, x.codeLength(i), y.codeLength(0));
            for (int j = 0; j < x.codeLength(i); j++) {
                for (int what = 0; what < 4; what++) {
                    is("code of piece " + i, x.codeAt(i, j, what), y.codeAt(0, j, what));
                }
            }
        }
        fails("piece(6)", BAD_ARGUMENT, x, () -> x.piece(6));
        fails("piece(-1)", BAD_ARGUMENT, x, () -> x.piece(-1));
        put(x, times(" ", 1200 - PIECES[2].length()));
        fails("a piece that is one byte too long", BAD_STATE, x, () -> x.piece(2));
        is("changes nothing", x.clearText(), 1200 - PIECES[2].length());
        put(x, times(" ", 1199 - PIECES[2].length()));
        is("a piece that just fits", x.piece(2), 1200);
        fails("one byte more", BAD_STATE, x, () -> x.type(0, 0, 0, 0, 0, 1));
        is("no byte more", x.type(0, 0, 0, 0, 0, 0), 1200);
    }

    private static void promise21() {
        Rangehold x = new Rangehold();
        is("clearText of nothing", x.clearText(), 0);
        is("an empty text", x.errorKind(), 0);
        x.piece(0);
        is("clearText", x.clearText(), PIECES[0].length() + 1);
        is("it is empty", x.count(18), 0);
        error(" \n ", 0, NONE);
        error("tx ab{}", 0, NONE);
        error("tx ab{a=999999;}tx abcdefgh{}", 0, NONE);
        error("tx ab{a=1000000;}", 1, 8);
        error("tx ab{a=0000000999999;}", 0, NONE);
        error("tx ab{ 99999999999999999999 }", 1, 7);
        error("tx ab{a=b&c;}", 1, 9);
        error("Tx ab{}", 1, 0);
        error("tx ab{\t}", 1, 6);
        error("tx a{}", 2, 3);
        error("tx abcdefghi{}", 2, 3);
        error("tx while{}", 2, 3);
        error("tx tx{}", 2, 3);
        error("ab", 2, 0);
        error("tx ab{", 2, 6);
        error("tx ab{a=1}", 2, 9);
        error("tx ab{aa=1;}", 2, 6);
        error("tx ab{a=1<2<3;}", 2, 11);
        error("tx ab{a=;}", 2, 8);
        error("tx ab{else{}}", 2, 6);
        error("tx ab{get 1;}", 2, 10);
        error("tx ab{put 1;}", 2, 11);
        error("tx ab{scan k k 0,1{}}", 4, 13);
        error("tx ab{scan k kk 0,1{}}", 2, 13);
        error("tx ab{scan k v 0,1{scan a b 0,1{}}}", 2, 19);
        error("tx ab{scan k v 0,1{}scan k v 0,1{}}", 0, NONE);
        error("tx ab{}tx ab{}", 4, 10);
        error("tx aa{}tx bb{}tx cc{}tx dd{}tx ee{}tx ff{}tx gg{}", 5, 42);
        error("tx aa{}tx bb{}tx cc{}tx dd{}tx ee{}tx ff{} x", 2, 43);
        error("tx ab{a=" + times("(", 11) + "1" + times(")", 11) + ";}", 0, NONE);
        error("tx ab{a=" + times("(", 12) + "1" + times(")", 12) + ";}", 3, 19);
        error("tx ab{a=" + times("-", 11) + "1;}", 0, NONE);
        error("tx ab{a=" + times("-", 12) + "1;}", 3, 19);
        error("tx ab{a=" + times("-1*", 30) + "1;}", 0, NONE);
        error("tx ab{a=" + times("1-", 30) + "1;}", 0, NONE);
        error("tx ab{" + times("if 1{", 11) + times("}", 12), 0, NONE);
        error("tx ab{" + times("if 1{", 12) + times("}", 13), 3, 65);
        error("tx ab{" + times("if 1{", 11) + "a=(1);" + times("}", 12), 3, 63);
    }

    private static void promise22() {
        Rangehold x = new Rangehold();
        is("load of an empty text", x.load(), 0);
        put(x, "tx ab{");
        is("errorPlace at the end", x.errorPlace(), 6);
        fails("load of an error", BAD_STATE, x, x::load);
        is("changes nothing", x.count(18), 6);
        x.clearText();
        x.piece(4);
        x.piece(1);
        is("errorPlace without an error", x.errorPlace(), NONE);
        is("load", x.load(), 2);
        is("the text is empty", x.count(18), 0);
        x.piece(4);
        is("a NAME that is in the house", x.errorKind(), 4);
        is("its place", x.errorPlace(), 3);
        x.clearText();
        for (int i = 0; i < 6; i++) {
            if (i != 4 && i != 1) {
                x.piece(i);
            }
        }
        is("load of four more", x.load(), 6);
        x.piece(0);
        is("the word tx of a 7th", x.errorKind(), 5);
        is("its place", x.errorPlace(), 0);
        x.clearText();
        is("load of an empty text", x.load(), 6);
    }

    private static void code(Rangehold x, int program, int... due) {
        is("codeLength", x.codeLength(program), due.length / 4);
        for (int i = 0; i < due.length && i / 4 < x.codeLength(program); i++) {
            is("codeAt(" + i / 4 + ", " + i % 4 + ")", x.codeAt(program, i / 4, i % 4), due[i]);
        }
    }

    private static void promise23() {
        Rangehold x = new Rangehold();
        fails("codeLength of none", NO_SUCH_NUMBER, x, () -> x.codeLength(0));
        with(x, "tx ab{} tx cd{c=-1*(a+z)-5/2%3<4; get d 1; has e 2; put 3,4; del 5; give 6; fail;}");
        code(x, 0, 23, 0, 0, 0);
        code(x, 1, 0, 0, 0, 0, 1, 1, 0, 0, 12, 0, 0, 0, 2, 0, 0, 0, 2, 25, 0, 0, 4, 0, 0, 0, 6, 0, 0, 0, 1, 5, 0, 0, 1, 2, 0, 0,
            7, 0, 0, 0, 1, 3, 0, 0, 8, 0, 0, 0, 5, 0, 0, 0, 1, 4, 0, 0, 9, 0, 0, 0, 3, 2, 0, 0,
            0, 0, 0, 0, 1, 1, 0, 0, 15, 3, 0, 0, 0, 0, 0, 0, 1, 2, 0, 0, 16, 4, 0, 0,
            0, 0, 0, 0, 1, 3, 0, 0, 1, 4, 0, 0, 17, 0, 0, 0, 0, 0, 0, 0, 1, 5, 0, 0, 18, 0, 0, 0,
            0, 0, 0, 0, 1, 6, 0, 0, 21, 0, 0, 0, 0, 0, 0, 0, 22, 0, 0, 0, 23, 0, 0, 0);
        with(x, "tx ef{scan k v 0,9{a=v;} if a>1{a=2;} if a=1{a=2;}else{a=3;} while a{a=0;}}");
        code(x, 2, 0, 0, 0, 0, 1, 0, 0, 0, 1, 9, 0, 0, 19, 0, 0, 0, 20, 10, 21, 10, 0, 0, 0, 0, 0, 0, 0, 0, 2, 21, 0, 0, 3, 0, 0, 0, 13, 4, 0, 0,
            0, 0, 0, 0, 2, 0, 0, 0, 1, 1, 0, 0, 10, 0, 0, 0, 14, 18, 0, 0, 0, 0, 0, 0, 1, 2, 0, 0, 3, 0, 0, 0,
            0, 0, 0, 0, 2, 0, 0, 0, 1, 1, 0, 0, 11, 0, 0, 0, 14, 27, 0, 0, 0, 0, 0, 0, 1, 2, 0, 0, 3, 0, 0, 0, 13, 30, 0, 0,
            0, 0, 0, 0, 1, 3, 0, 0, 3, 0, 0, 0,
            0, 0, 0, 0, 2, 0, 0, 0, 14, 37, 0, 0, 0, 0, 0, 0, 1, 0, 0, 0, 3, 0, 0, 0, 13, 30, 0, 0, 23, 0, 0, 0);
        fails("codeLength(3)", NO_SUCH_NUMBER, x, () -> x.codeLength(3));
        fails("codeAt of none", NO_SUCH_NUMBER, x, () -> x.codeAt(-1, 0, 9));
        fails("codeAt behind the end", NO_SUCH_NUMBER, x, () -> x.codeAt(0, 1, 9));
        fails("codeAt(-1)", NO_SUCH_NUMBER, x, () -> x.codeAt(0, -1, 0));
        fails("codeAt(.., 4)", BAD_ARGUMENT, x, () -> x.codeAt(0, 0, 4));
        fails("codeAt(.., -1)", BAD_ARGUMENT, x, () -> x.codeAt(0, 0, -1));
    }

    private static void given(String statements, int a, int b, int due) {
        Rangehold x = with(new Rangehold(), "tx try{}".replace("try{}", "trial{" + statements + "}"));
        is(statements, x.trial(0, a, b), 0);
        is(statements, x.trialAt(0), due);
    }

    private static void fallen(String statements, int a, int due, int steps) {
        Rangehold x = with(new Rangehold(), "tx ab{put 1,1;" + statements + "}");
        is(statements, x.trial(0, a, 0), due);
        is("a program that fell gives nothing", x.trialAt(0), 0);
        is("steps of " + statements, x.trialAt(1), steps);
        is("a program that fell puts nothing", x.trialAt(3), ABSENT);
    }

    private static void promise24() {
        Rangehold x = new Rangehold();
        is("given ahead of a trial", x.trialAt(0), 0);
        is("steps ahead of a trial", x.trialAt(1), 0);
        is("keys ahead of a trial", x.trialAt(33), ABSENT);
        fails("trialAt(34)", BAD_ARGUMENT, x, () -> x.trialAt(34));
        fails("trialAt(-1)", BAD_ARGUMENT, x, () -> x.trialAt(-1));
        fails("trial of none", NO_SUCH_NUMBER, x, () -> x.trial(0, 1, 2));
        given("", 1, 2, 0);
        given("give a-b*2;", 7, 2, 3);
        given("give 7/-2;", 0, 0, -3);
        given("give -7%3;", 0, 0, -1);
        given("give 1<2;", 0, 0, 1);
        given("give 2<1;", 0, 0, 0);
        given("give 2>1;", 0, 0, 1);
        given("give a=b;", 5, 5, 1);
        given("give a/b;", Integer.MIN_VALUE, -1, Integer.MIN_VALUE);
        given("give a+1;", Integer.MAX_VALUE, 0, Integer.MIN_VALUE);
        given("give -a;", Integer.MIN_VALUE, 0, Integer.MIN_VALUE);
        given("give c+z;", 5, 5, 0);
        given("if a{give 1;}else{give 2;} give 3;", 0, 0, 2);
        given("while a{b=b+a;a=a-1;} give b;", 4, 0, 10);
        given("put 3,7;put 5,9;del 3;scan k v 0,32{n=n+k*100+v;put 6,1;} give n;", 0, 0, 509);
        given("put 3,7;has p 3;has q 4;get r 3;get s 4;give p*1000+q*100+r*10+s;", 0, 0, 1070);
        fallen("get x a;", 32, Rangehold.KEY, 2);
        fallen("put a,1/0;", -1, Rangehold.ZERO, 2);
        fallen("put a,1;", -1, Rangehold.KEY, 2);
        fallen("scan k v a,a{}", 3, Rangehold.KEY, 2);
        fallen("scan k v 0,a{}", 33, Rangehold.KEY, 2);
        fallen("scan k v a,32{}", 32, Rangehold.KEY, 2);
        fallen("b=a%0;", 3, Rangehold.ZERO, 2);
        fallen("fail;", 3, Rangehold.FAILED, 2);
        fallen("while 1{}", 3, Rangehold.TIRED, 100);
        fallen("put 2,2;put 3,3;while a<32{scan k v 1,4{} a=a+1;}", 0, Rangehold.TIRED, 100);
        Rangehold y = with(alone(), "tx ab{get x a;put a,x+1;give x;}");
        commit(y, 0, 4, 40);
        is("trial", y.trial(0, 4, 0), 0);
        is("on what the committed leave", y.trialAt(0), 40);
        is("steps", y.trialAt(1), 3);
        is("what it puts", y.trialAt(6), 41);
        is("what it does not put", y.trialAt(7), ABSENT);
        is("nothing else changes", y.heldAt(4), 40);
        y.trial(0, 32, 0);
        is("as if nothing was written", y.trialAt(6), 40);
        Rangehold z = with(new Rangehold(), "tx ab{while a<32{a=a+1;}while a<33{a=a+1;}b=0;give a;}");
        is("just 100 steps", z.trial(0, -15, 0), 0);
        is("are allowed", z.trialAt(1), 100);
        is("and no more", z.trial(0, -16, 0), Rangehold.TIRED);
    }

    // ---- promises 25 to 29

    private static void promise25() {
        Rangehold x = new Rangehold();
        x.addNode(0);
        with(x, PIECES[0] + " " + PIECES[4] + " tx none{give b;}");
        fails("run ahead of a group", BAD_STATE, x, () -> x.run(0, 0, 0, 0));
        fails("run of none", NO_SUCH_NUMBER, x, () -> x.run(0, 3, 0, 0));
        fails("run at no node", NO_SUCH_NUMBER, x, () -> x.run(1, 0, 0, 0));
        x.found(1);
        x.pass(9);
        commit(x, 0, 1, 5);
        is("run", x.run(0, 0, 1, 2), 0);
        is("RUNS", x.jobAt(0, 0), Rangehold.RUNS);
        is("its node", x.jobAt(0, 1), 0);
        is("its program", x.jobAt(0, 2), 0);
        is("begun", x.jobAt(0, 3), 1);
        is("its transaction", x.jobAt(0, 6), 1);
        is("its ask", x.jobAt(0, 8), x.count(7) - 1);
        is("a READ", x.askAt((int) x.jobAt(0, 8), 0), Rangehold.READ);
        fails("its transaction is not for read()", BAD_STATE, x, () -> x.read(1, 0, 0, 0));
        fails("nor for end()", BAD_STATE, x, () -> x.end(1, true, 0, 0));
        x.deliver(0);
        x.deliver(0);
        is("an intent is in its way", x.jobAt(0, 7), 1);
        is("it PUSHES", x.askAt((int) x.jobAt(0, 8), 0), Rangehold.PUSH);
        x.deliver(0);
        x.deliver(0);
        is("it RESOLVES", x.askAt((int) x.jobAt(0, 8), 0), Rangehold.RESOLVE);
        is("and still PUSHES", x.jobAt(0, 7), 1);
        calm(x);
        is("it TELLS", x.jobAt(0, 7), 3);
        is("it gave nothing so far", x.jobAt(0, 4), 0);
        is("no ask", x.jobAt(0, 8), NONE);
        is("it is cleaned", x.rangeAt(0, 5), 0);
        x.pass(7);
        is("DONE", x.jobAt(0, 0), Rangehold.DONE);
        is("it gave", x.jobAt(0, 4), 5);
        is("it was told", x.transactionAt(1, 6), 1);
        is("moved from", x.heldAt(1), 4);
        is("moved to", x.heldAt(2), 1);
        is("a job without an ask", x.run(0, 2, 0, -7), 1);
        is("TELLS at once", x.jobAt(1, 7), 3);
        x.pass(7);
        is("DONE", x.jobAt(1, 4), -7);
        x.run(0, 1, 1, 3);
        calm(x);
        is("a job that fails FELL", x.jobAt(2, 0), Rangehold.FELL);
        is("with this", x.jobAt(2, 5), Rangehold.FAILED);
        is("its transaction is ABORTED", x.transactionAt((int) x.jobAt(2, 6), 0), Rangehold.ABORTED);
        is("what it wrote is not committed", x.heldAt(1), 4);
        x.run(0, 0, 1, 2);
        x.stop(0, false);
        is("GIVEN_UP", x.jobAt(3, 0), Rangehold.GIVEN_UP);
        fails("run at a node that is down", BAD_STATE, x, () -> x.run(0, 0, 0, 0));
        fails("jobAt of none", NO_SUCH_NUMBER, x, () -> x.jobAt(4, 9));
        fails("jobAt(.., 9)", BAD_ARGUMENT, x, () -> x.jobAt(0, 9));
        is("agrees", x.agrees(), true);
        is("errors", x.errors(), 0);
    }

    private static void promise25Many() {
        Rangehold x = with(alone(), "tx none{} tx some{get x 1;put 1,x;}");
        for (int i = 0; i < 23; i++) {
            x.run(0, 0, 0, 0);
        }
        for (int i = 23; i < 80; i++) {
            x.begin(0);
        }
        int job = x.run(0, 1, 0, 0);
        is("a job without a transaction FELL", x.jobAt(job, 0), Rangehold.FELL);
        is("with MANY", x.jobAt(job, 5), Rangehold.MANY);
        is("its transaction", x.jobAt(job, 6), NONE);
        fails("run of a 25th", BAD_STATE, x, () -> x.run(0, 0, 0, 0));
        Rangehold y = with(three(), "tx some{get x 1;put 1,x;give x;}");
        y.run(1, 0, 0, 0);
        is("its leader is its own node at first", y.messageAt(0, 2), 1);
        calm(y);
        is("NOT_LEADER: it rests", y.jobAt(0, 8), NONE);
        y.pass(1);
        is("then asks the next node", y.messageAt(0, 2), 2);
        calm(y);
        y.pass(1);
        is("behind the last one 0", y.messageAt(y.count(9) - 1, 2), 0);
        y.lose(y.count(9) - 1);
        y.pass(5);
        int sent = y.count(9);
        y.pass(1);
        is("6 ticks later it is sent again", y.count(9) > sent, true);
        is("to the next node", y.messageAt(y.count(9) - 1, 2), 1);
        y.settle(40);
        is("DONE", y.jobAt(0, 0), Rangehold.DONE);
        Rangehold z = with(alone(), "tx some{put 1,1;put 2,2;}");
        for (int i = 0; i < 499; i++) {
            z.readAsOf(0, 0, 0, 0, 0);
            z.lose(0);
        }
        z.run(0, 0, 0, 0);
        calm(z);
        is("a job without asks FELL", z.jobAt(0, 5), Rangehold.MANY);
        is("its transaction stays as it is", z.transactionAt(0, 0), Rangehold.OPEN);
    }

    private static void promise25Anew() {
        Rangehold x = with(alone(), "tx some{put 1,1;put 2,2;give 9;}");
        x.run(0, 0, 0, 0);
        for (int i = 1; i <= 8; i++) {
            int it = (int) x.jobAt(0, 6);
            is("begun", x.jobAt(0, 3), i);
            is("the first WRITE", ahead(x, x.jobAt(0, 8)), Rangehold.OK);
            is("a reading ahead of the second", ahead(x, x.readAsOf(0, x.transactionAt(it, 2), 2, 0, 0)), Rangehold.OK);
            int write = x.jobAt(0, 8);
            is("the second WRITE", ahead(x, write), Rangehold.LATE);
            is("an END", x.askAt(x.jobAt(0, 8), 0), Rangehold.END);
            is("it WORKS still", x.jobAt(0, 7), 0);
            is("the END", ahead(x, x.jobAt(0, 8)), Rangehold.OK);
            is("ABORTED", x.transactionAt(it, 0), Rangehold.ABORTED);
            x.compact(0, 0);
            if (i < 8) {
                is("an intent of the one ahead is in the way", ahead(x, x.jobAt(0, 8)), Rangehold.WAITS);
                is("a PUSH", ahead(x, x.jobAt(0, 8)), Rangehold.OK);
                is("a RESOLVE", ahead(x, x.jobAt(0, 8)), Rangehold.OK);
            }
        }
        is("it is begun 8 times at most", x.jobAt(0, 3), 8);
        is("then it FELL", x.jobAt(0, 0), Rangehold.FELL);
        is("with MANY", x.jobAt(0, 5), Rangehold.MANY);
        Rangehold y = with(alone(), "tx some{put 1,1;give 9;}");
        y.run(0, 0, 0, 0);
        ahead(y, y.readAsOf(0, 800 * 19, 1, 0, 0));
        is("LATE", ahead(y, 0), Rangehold.LATE);
        ahead(y, y.jobAt(0, 8));
        is("the node was told the k", y.transactionAt(1, 2), 8 * (100 * 19 + 1));
        y.settle(40);
        is("DONE", y.jobAt(0, 4), 9);
        is("COMMITTED", y.heldAt(1), 1);
    }

    private static void promise25Rests() {
        Rangehold x = with(alone(), "tx some{get x 1;give x;}");
        int it = x.begin(0);
        answer(x, x.write(it, 1, 1, 0, 0));
        x.run(0, 0, 0, 0);
        is("a READ in the way of an intent", ahead(x, x.jobAt(0, 8)), Rangehold.WAITS);
        int push = x.jobAt(0, 8);
        is("a PUSH", ahead(x, push), Rangehold.WAITS);
        is("it rests", x.jobAt(0, 8), NONE);
        is("and asks nothing", x.count(7), push + 1);
        is("it PUSHES still", x.jobAt(0, 7), 1);
        x.pass(1);
        is("until the next tick", x.jobAt(0, 8), push + 1);
        is("then it asks the PUSH anew", x.askAt(push + 1, 0), Rangehold.PUSH);
        x.settle(40);
        is("DONE", x.jobAt(0, 0), Rangehold.DONE);
        is("the other one is ABORTED", answer(x, x.end(it, true, 0, 0)), Rangehold.OK);
        is("as its END tells", x.transactionAt(it, 0), Rangehold.ABORTED);
        Rangehold y = with(alone(), "tx some{scan k v 0,32{s=s+v;}give s;}");
        y.setKeeper(0, false);
        int first = commit(y, 0, 3, 3, 20, 20);
        resolveAll(y, first, 0, 3, 20);
        answer(y, y.split(0, 10, 0, 0));
        y.pass(9);
        calm(y);
        y.run(0, 0, 0, 0);
        is("a SCAN up to the end of its range", ahead(y, y.jobAt(0, 8)), Rangehold.OK);
        int rest = y.jobAt(0, 8);
        is("goes on behind it", y.askAt(rest, 6), 10);
        is("where it believes it", ahead(y, rest), Rangehold.WRONG);
        is("it rests", y.jobAt(0, 8), NONE);
        y.pass(1);
        is("then asks the next range", y.askAt(y.jobAt(0, 8), 2), 1);
        y.settle(40);
        is("the sum", y.jobAt(0, 4), 23);
        is("agrees", y.agrees(), true);
    }

    private static void promise25Lost() {
        Rangehold x = with(three(), "tx some{put 1,1;}");
        x.run(0, 0, 0, 0);
        x.run(1, 0, 0, 0);
        int kept = x.jobAt(0, 8);
        is("both asks are without an answer", x.count(8), 2);
        is("one is LOST", x.stop(1, false), 1);
        is("GIVEN_UP", x.jobAt(1, 0), Rangehold.GIVEN_UP);
        is("a LOST ask is no ask without an answer", x.jobAt(1, 8), NONE);
        is("that of the other job is one still", x.jobAt(0, 8), kept);
        x.start(1);
        x.settle(30);
        is("it gets no answer", x.jobAt(1, 8), NONE);
        is("the other job is DONE", x.jobAt(0, 0), Rangehold.DONE);
    }

    /** A job at node 1 of four, whose first ask was just sent; nobody is a leader, and no copy stands for 11 ticks. */
    private static Rangehold asking() {
        Rangehold x = new Rangehold();
        for (int i = 0; i < 4; i++) {
            x.addNode(0);
        }
        x.found(2);
        x = with(x, "tx some{get x 1;give x;}");
        x.run(1, 0, 0, 0);
        return x;
    }

    private static void promise25Again() {
        Rangehold x = asking();
        x.pass(5);
        x.again(0, 3);
        is("the job's own REQUEST and that of again()", x.count(9), 2);
        x.pass(1);
        is("the 6 ticks are those of the job", x.count(9), 3);
        is("the node is behind that of the job", x.messageAt(2, 2), 2);
        x.pass(3);
        x.again(0, 0);
        x.again(0, 0);
        is("again() twice", x.count(9), 5);
        x.lose(4);
        x.lose(3);
        x.pass(2);
        is("not ahead of 6 ticks", x.count(9), 3);
        x.pass(1);
        is("6 ticks behind its own sending again", x.messageAt(3, 2), 3);
        x.again(0, 2);
        x.lose(4);
        x.pass(6);
        is("behind the last node 0", x.messageAt(x.count(9) - 1, 2), 0);
        Rangehold y = asking();
        y.again(0, 3);
        y.deliver(1);
        y.deliver(1);
        is("the REQUEST of again() is answered", y.askAt(0, 3), Rangehold.NO_COPY);
        y.pass(1);
        is("the next node is that behind the believed one", y.messageAt(1, 2), 2);
    }

    private static void promise25Writes() {
        Rangehold x = with(alone(), "tx some{put 9,1;put 4,2;put 9,3;has p 5;put 5,p;del 4;get q 4;give q;}");
        x.run(0, 0, 0, 0);
        for (int i = 0; i < 7; i++) {
            is("it WORKS", x.jobAt(0, 7), 0);
            is("an operation", ahead(x, x.jobAt(0, 8)), Rangehold.OK);
        }
        is("END", x.askAt(x.jobAt(0, 8), 0), Rangehold.END);
        is("the anchor key", x.transactionAt(0, 3), 9);
        is("END", ahead(x, x.jobAt(0, 8)), Rangehold.OK);
        for (int key : new int[] {4, 5, 9}) {
            is("it CLEANS", x.jobAt(0, 7), 2);
            is("a key that it wrote", x.askAt(x.jobAt(0, 8), 6), key);
            is("a RESOLVE", ahead(x, x.jobAt(0, 8)), Rangehold.OK);
        }
        is("it TELLS", x.jobAt(0, 7), 3);
        is("nothing is left", x.rangeAt(0, 5), 0);
        is("the value that was put last", x.heldAt(9), 3);
        is("what was taken away", x.heldAt(4), ABSENT);
        is("a version tells it", x.versionAt(0, 4, 0, true), ABSENT);
        x.setClock(0, -3);
        x.pass(9);
        is("it rests till it can be told", x.jobAt(0, 0), Rangehold.RUNS);
        x.pass(1);
        is("DONE", x.jobAt(0, 0), Rangehold.DONE);
        is("it gave", x.jobAt(0, 4), 0);
    }

    private static void promise26() {
        Rangehold x = three();
        is("setKeeper", x.setKeeper(0, true), false);
        is("setKeeper again", x.setKeeper(0, true), true);
        fails("setKeeper of none", NO_SUCH_NUMBER, x, () -> x.setKeeper(3, true));
        x.pass(1);
        calm(x);
        is("at a tick that can be divided by 10, nothing is to be done ahead of the time 14", x.count(7), 0);
        x.pass(10);
        is("a CLOSE", x.askAt(0, 0), Rangehold.CLOSE);
        calm(x);
        is("13 ticks behind the clock", x.rangeAt(0, 8), 800 * 7);
        x.stop(2, true);
        for (int i = 0; i < 4; i++) {
            x.pass(10);
            calm(x);
        }
        is("no DROP ahead of more than 40 ticks", x.rangeAt(0, 7), 7);
        x.pass(10);
        calm(x);
        is("a DROP of a silent member", x.rangeAt(0, 7), 3);
        x.start(2);
        x.pass(10);
        calm(x);
        is("an ADD of a node that is up", x.rangeAt(0, 7), 7);
        fails("deliver(-1)", BAD_ARGUMENT, x, () -> x.deliver(-1));
        fails("deliver(1001)", BAD_ARGUMENT, x, () -> x.deliver(1001));
        is("deliver of nothing", x.deliver(1000), NONE);
        x.readAsOf(0, 0, 0, 0, 0);
        x.readAsOf(0, 0, 0, 0, 1);
        is("deliver modulo the messages", x.deliver(1000), Rangehold.REQUEST);
        is("the first one was delivered", x.messageAt(0, 2), 1);
        x.lose(0);
        x.stop(0, false);
        x.lose(0);
        calm(x);
        x.start(0);
        is("errors", x.errors(), 0);
    }

    private static void promise26Adds() {
        Rangehold x = new Rangehold();
        for (int i = 0; i < 4; i++) {
            x.addNode(0);
        }
        x.found(1);
        x.stop(1, false);
        x.setKeeper(0, true);
        x.pass(20);
        calm(x);
        is("an ADD of the least node that is up", x.rangeAt(0, 7), 5);
        x.pass(10);
        calm(x);
        is("and of the next one", x.rangeAt(0, 7), 13);
        int asks = x.count(7);
        x.pass(10);
        calm(x);
        is("3 are enough", x.rangeAt(0, 7), 13);
        is("so the moment is closed", x.askAt(asks, 0), Rangehold.CLOSE);
        x.stop(3, false);
        for (int i = 0; i < 8; i++) {
            x.pass(5);
            calm(x);
        }
        is("no DROP so far", x.rangeAt(0, 7), 13);
        x.pass(5);
        calm(x);
        x.pass(5);
        calm(x);
        is("a DROP of a member that is silent for more than 40 ticks", x.rangeAt(0, 7), 5);
        x.start(1);
        x.pass(10);
        calm(x);
        is("an ADD", x.rangeAt(0, 7), 7);
        is("errors", x.errors(), 0);
    }

    private static void promise26Splits() {
        Rangehold x = alone();
        x.setKeeper(0, true);
        int it = x.begin(0);
        for (int key = 10; key < 22; key++) {
            answer(x, x.write(it, key, key, 0, 0));
        }
        x.setClock(0, -3);
        x.pass(1);
        is("12 are not too many", x.count(7), 12);
        answer(x, x.write(it, 22, 22, 0, 0));
        x.pass(10);
        is("13 are", x.askAt(13, 0), Rangehold.SPLIT);
        is("half of them are ahead", x.askAt(13, 6), 17);
        is("it is sent to itself", x.messageAt(x.count(9) - 1, 2), 0);
        x.lose(x.count(9) - 1);
        x.pass(10);
        is("nothing as long as it has no answer", x.count(7), 14);
    }

    private static void promise27() {
        Rangehold x = alone();
        fails("lose(-1)", BAD_ARGUMENT, x, () -> x.lose(-1));
        fails("lose(1001)", BAD_ARGUMENT, x, () -> x.lose(1001));
        fails("twice(-1)", BAD_ARGUMENT, x, () -> x.twice(-1));
        fails("twice(1001)", BAD_ARGUMENT, x, () -> x.twice(1001));
        is("lose of nothing", x.lose(0), NONE);
        is("twice of nothing", x.twice(0), NONE);
        int first = x.readAsOf(0, 1, 0, 0, 0);
        int second = x.readAsOf(0, 2, 0, 0, 0);
        is("twice", x.twice(2), Rangehold.REQUEST);
        is("a like one is behind all others", x.messageAt(2, 4), first);
        is("it stays", x.messageAt(0, 4), first);
        is("sent", x.count(10), 3);
        is("lose", x.lose(3), Rangehold.REQUEST);
        is("lost", x.count(11), 1);
        is("the others stay in order", x.messageAt(0, 4), second);
        is("both are carried out", answer(x, first), Rangehold.OK);
        for (int i = 0; i < 150; i++) {
            x.readAsOf(0, 1, 0, 0, 0);
        }
        is("the net holds 150", x.count(9), 150);
        x.readAsOf(0, 1, 0, 0, 0);
        is("one more is lost as it is sent", x.count(9), 150);
        is("it counts as lost", x.count(11), 2);
        is("twice with a full net", x.twice(0), Rangehold.REQUEST);
        is("counts as lost", x.count(11), 3);
        is("entries of one ask that came twice", x.rangeAt(0, 3), 3);
    }

    private static void promise28() {
        Rangehold x = three();
        x.pass(3);
        is("at the time 12 the leader sends", x.count(9), 2);
        is("ENTRIES", x.messageAt(0, 0), Rangehold.ENTRIES);
        is("from", x.messageAt(0, 1), 0);
        is("to", x.messageAt(1, 2), 2);
        is("the range", x.messageAt(0, 3), 0);
        is("the term", x.messageAt(0, 4), 1);
        is("no yes", x.messageAt(0, 5), NONE);
        is("no entries", x.messageAt(0, 6), 0);
        x.deliver(0);
        is("GOT", x.messageAt(1, 0), Rangehold.GOT);
        is("yes", x.messageAt(1, 5), 1);
        calm(x);
        x.readAsOf(1, 0, 0, 0, 2);
        is("REQUEST", x.messageAt(0, 0), Rangehold.REQUEST);
        is("its ask", x.messageAt(0, 4), 0);
        is("from the node that asks", x.messageAt(0, 1), 1);
        x.again(0, 0);
        x.deliver(1);
        is("an entry to each other member", x.messageAt(1, 6), 1);
        x.deliver(0);
        is("ANSWER", x.messageAt(2, 0), Rangehold.ANSWER);
        is("its ask", x.messageAt(2, 4), 0);
        fails("messageAt behind the last", NO_SUCH_NUMBER, x, () -> x.messageAt(3, 9));
        fails("messageAt(-1)", NO_SUCH_NUMBER, x, () -> x.messageAt(-1, 0));
        fails("messageAt(.., 7)", BAD_ARGUMENT, x, () -> x.messageAt(0, 7));
        fails("pass(0)", BAD_ARGUMENT, x, () -> x.pass(0));
        fails("pass(31)", BAD_ARGUMENT, x, () -> x.pass(31));
        Rangehold y = new Rangehold();
        for (int i = 0; i < 166; i++) {
            y.pass(30);
        }
        fails("settle of too many ticks", BAD_STATE, y, () -> y.settle(21));
        is("settle up to the end", y.settle(20), 0);
        fails("play of too many acts", BAD_STATE, y, () -> y.play(0, 21));
        is("play up to the end does not pass it", y.play(0, 20) <= 5000, true);
        is("pass up to the end", y.pass(5000 - y.count(0)), 5000);
        fails("pass behind the end", BAD_STATE, y, () -> y.pass(1));
        fails("pass of too many behind the end", BAD_ARGUMENT, y, () -> y.pass(31));
        fails("settle behind the end", BAD_STATE, y, () -> y.settle(1));
        fails("play behind the end", BAD_STATE, y, () -> y.play(0, 1));
    }

    private static void promise28Log() {
        Rangehold x = three();
        x.stop(2, false);
        for (int i = 0; i < 6; i++) {
            answer(x, x.readAsOf(0, 0, 0, 0, 0));
        }
        x.start(2);
        x.pass(3);
        is("ENTRIES have 4 entries at most", x.messageAt(1, 6), 4);
        x.deliver(1);
        is("a member that has the one ahead says yes", x.messageAt(1, 5), 1);
        x.deliver(1);
        is("it gets what it lacks", x.messageAt(1, 6), 2);
        calm(x);
        is("it has all", x.copyAt(2, 0, 3), 7);
        is("errors", x.errors(), 0);
    }

    private static void promise28Terms() {
        Rangehold x = three();
        x.stop(2, false);
        for (int i = 0; i < 6; i++) {
            answer(x, x.readAsOf(0, 0, 0, 0, 0));
        }
        x.stop(0, false);
        x.start(2);
        x.pass(12);
        calm(x);
        is("another one leads by the next term", x.copyAt(1, 0, 0), 2);
        is("the term of its entry", x.entryAt(1, 0, 8, 0), 2);
        is("it could agree with node 2 alone", x.copyAt(1, 0, 4), 8);
        x.start(0);
        x.pass(3);
        calm(x);
        is("the old one follows", x.copyAt(0, 0, 0), 2);
        is("its log is the same", x.copyAt(0, 0, 3), 8);
        is("errors", x.errors(), 0);
        Rangehold y = three();
        y.stop(2, false);
        for (int i = 0; i < 6; i++) {
            answer(y, y.readAsOf(0, 0, 0, 0, 0));
        }
        y.stop(0, false);
        y.start(2);
        y.pass(12);
        for (int i = 0; i < 100 && y.copyAt(1, 0, 1) != Rangehold.LEADER; i++) {
            y.deliver(0);
        }
        int last = y.count(9) - 1;
        is("ENTRIES to node 2", y.messageAt(last, 2), 2);
        is("from the last one on", y.messageAt(last, 6), 1);
        y.deliver(last);
        is("a member that lacks the one ahead says no", y.messageAt(last, 5), 0);
        y.deliver(last);
        is("it gets those behind its last one", y.messageAt(last, 6), 4);
    }

    private static void promise29() {
        Rangehold x = new Rangehold();
        x.addNode(0);
        x.addNode(0);
        x.found(3);
        fails("settle(0)", BAD_ARGUMENT, x, () -> x.settle(0));
        fails("settle(41)", BAD_ARGUMENT, x, () -> x.settle(41));
        is("settle lets ticks pass until there is a leader", x.settle(40), 9);
        is("and delivers all", x.count(9), 0);
        is("settle when all is settled", x.settle(40), 0);
        x.readAsOf(1, 0, 0, 0, 0);
        is("settle delivers without a tick", x.settle(1), 0);
        int open = x.readAsOf(1, 0, 0, 0, 0);
        x.lose(0);
        is("settle with an ask without an answer", x.settle(4), 4);
        is("does not send it again", x.askAt(open, 3), NONE);
        fails("play(.., 0)", BAD_ARGUMENT, x, () -> x.play(1, 0));
        fails("play(.., 151)", BAD_ARGUMENT, x, () -> x.play(1, 151));
        Rangehold y = three();
        Rangehold z = three();
        int seed = 12345;
        int drawn = seed;
        for (int i = 0; i < 150; i++) {
            drawn = drawn * 1103515245 + 12345;
            int act = (drawn >>> 16) % 16;
            drawn = drawn * 1103515245 + 12345;
            int choice = (drawn >>> 16) % 1000;
            if (act <= 10) {
                z.deliver(choice);
            } else if (act == 11) {
                z.lose(choice);
            } else if (act == 12) {
                z.twice(choice);
            } else {
                z.pass(1);
            }
        }
        is("play", y.play(seed, 150), z.count(0));
        for (int what = 0; what <= 18; what++) {
            is("count(" + what + ") behind play", y.count(what), z.count(what));
        }
        Rangehold w = alone();
        for (int i = 0; i < 149; i++) {
            w.readAsOf(0, 0, 0, 0, 0);
        }
        w.settle(1);
        is("settle delivers at most 400", w.count(8), 0);
    }

    private static void promise29Most() {
        Rangehold x = new Rangehold();
        for (int i = 0; i < 5; i++) {
            x.addNode(0);
        }
        x.found(31);
        x.settle(40);
        for (int i = 0; i < 39; i++) {
            x.readAsOf(0, 0, 0, 0, 0);
        }
        int ahead = x.count(10) - x.count(9) - x.count(11);
        is("settle ends with the 400th message", x.settle(40), 0);
        is("which is the 400th", x.count(10) - x.count(9) - x.count(11) - ahead, 400);
    }

    // ---- promises 30 to 32

    private static void promise30() {
        Rangehold x = three();
        x.stop(2, false);
        int it = commit(x, 0, 1, 1);
        x.pass(10);
        calm(x);
        x.tell(it);
        answer(x, x.readAsOf(0, 1, 1, 0, 0));
        x.readAsOf(0, 1, 1, 0, 0);
        x.lose(0);
        long[] due = {19, 3, 2, 1, 1, 1, 1, 4, 1, 0};
        for (int what = 0; what < due.length; what++) {
            is("count(" + what + ")", x.count(what), due[what]);
        }
        is("lost", x.count(11), 1);
        is("leaders", x.count(12), 1);
        is("entries that were agreed on", x.count(13), 4);
        is("reads as of a moment", x.count(14), 1);
        x.piece(2);
        is("the length of the text", x.count(18), PIECES[2].length() + 1);
        x.load();
        is("programs", x.count(17), 1);
        x.run(0, 0, 0, 1);
        is("jobs", x.count(15), 1);
        x.settle(40);
        is("DONE", x.count(16), 1);
        x.stop(0, false);
        is("leaders on nodes that are up", x.count(12), 0);
        fails("count(19)", BAD_ARGUMENT, x, () -> x.count(19));
        fails("count(-1)", BAD_ARGUMENT, x, () -> x.count(-1));
        is("agrees", x.agrees(), true);
    }

    private static void promise31() {
        Rangehold x = three();
        is("errors", x.errors(), 0);
        is("fineShare without an ask", x.fineShare() == 0.0, true);
        answer(x, x.readAsOf(0, 0, 0, 0, 0));
        is("fineShare of one", x.fineShare() == 1.0, true);
        answer(x, x.readAsOf(0, 0, 0, 0, 1));
        answer(x, x.readAsOf(0, 0, 0, 0, 2));
        is("fineShare of three", x.fineShare() == 1.0 / 3.0, true);
    }

    private static void promise32() {
        Rangehold x = new Rangehold();
        x.addNode(0);
        is("meanEntries without a copy", x.meanEntries() == 0.0f, true);
        Rangehold y = three();
        is("meanEntries", y.meanEntries() == 1.0f, true);
        y.stop(2, false);
        answer(y, y.readAsOf(0, 0, 0, 0, 0));
        is("meanEntries counts copies on nodes that are down", y.meanEntries() == 5.0f / 3.0f, true);
        y.stop(1, true);
        is("but not those that are gone", y.meanEntries() == 3.0f / 2.0f, true);
    }

    public static void main(String[] args) {
        promise1();
        promise2();
        promise3();
        promise4();
        promise5();
        promise6();
        promise7();
        promise8();
        promise9();
        promise10();
        promise10Sweeps();
        promise11();
        promise11Gone();
        promise12();
        promise12Again();
        promise13();
        promise13Moments();
        promise13Changes();
        promise13Next();
        promise13Base();
        promise14();
        promise14Full();
        promise14Long();
        promise15();
        promise16();
        promise17();
        promise18();
        promise19();
        promise20();
        promise21();
        promise22();
        promise23();
        promise24();
        promise25();
        promise25Many();
        promise25Anew();
        promise25Rests();
        promise25Lost();
        promise25Again();
        promise25Writes();
        promise26();
        promise26Adds();
        promise26Splits();
        promise27();
        promise28();
        promise28Log();
        promise28Terms();
        promise28Base();
        promise29();
        promise29Most();
        promise30();
        promise31();
        promise32();
        finish("PromiseTests");
    }
}
